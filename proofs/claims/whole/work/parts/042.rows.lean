theorem dX9_pressedAt_10 : decode cX9_pressedAt 10 = .ok (.aload_n 0, 1) := by decide +kernel
theorem dX9_pressedAt_11 : decode cX9_pressedAt 11 = .ok (.bipush 6, 2) := by decide +kernel
theorem dX9_pressedAt_13 : decode cX9_pressedAt 13 = .ok (.invokevirtual 76, 3) := by decide +kernel
theorem dX9_pressedAt_16 : decode cX9_pressedAt 16 = .ok (.ireturn, 1) := by decide +kernel
theorem dX9_pressedAt_17 : decode cX9_pressedAt 17 = .ok (.iload_n 1, 1) := by decide +kernel
theorem dX9_pressedAt_18 : decode cX9_pressedAt 18 = .ok (.ifCond .lt 17, 3) := by decide +kernel
theorem dX9_pressedAt_21 : decode cX9_pressedAt 21 = .ok (.iload_n 1, 1) := by decide +kernel
theorem dX9_pressedAt_22 : decode cX9_pressedAt 22 = .ok (.aload_n 0, 1) := by decide +kernel
theorem dX9_pressedAt_23 : decode cX9_pressedAt 23 = .ok (.getfield 44, 3) := by decide +kernel
theorem dX9_pressedAt_26 : decode cX9_pressedAt 26 = .ok (.getfield 213, 3) := by decide +kernel
theorem dX9_pressedAt_29 : decode cX9_pressedAt 29 = .ok (.getfield 110, 3) := by decide +kernel
theorem dX9_pressedAt_32 : decode cX9_pressedAt 32 = .ok (.if_icmp .lt 9, 3) := by decide +kernel
theorem dX9_pressedAt_35 : decode cX9_pressedAt 35 = .ok (.aload_n 0, 1) := by decide +kernel
theorem dX9_pressedAt_36 : decode cX9_pressedAt 36 = .ok (.iconst 1, 1) := by decide +kernel
theorem dX9_pressedAt_37 : decode cX9_pressedAt 37 = .ok (.invokevirtual 76, 3) := by decide +kernel
theorem dX9_pressedAt_40 : decode cX9_pressedAt 40 = .ok (.ireturn, 1) := by decide +kernel
theorem dX9_pressedAt_41 : decode cX9_pressedAt 41 = .ok (.aload_n 0, 1) := by decide +kernel
theorem dX9_pressedAt_42 : decode cX9_pressedAt 42 = .ok (.aload_n 0, 1) := by decide +kernel
theorem dX9_pressedAt_43 : decode cX9_pressedAt 43 = .ok (.getfield 44, 3) := by decide +kernel
theorem dX9_pressedAt_46 : decode cX9_pressedAt 46 = .ok (.iload_n 1, 1) := by decide +kernel
theorem dX9_pressedAt_47 : decode cX9_pressedAt 47 = .ok (.invokevirtual 216, 3) := by decide +kernel
theorem dX9_pressedAt_50 : decode cX9_pressedAt 50 = .ok (.invokevirtual 97, 3) := by decide +kernel
theorem dX9_pressedAt_53 : decode cX9_pressedAt 53 = .ok (.ireturn, 1) := by decide +kernel
theorem dX9_never_0 : decode cX9_never 0 = .ok (.aload_n 0, 1) := by decide +kernel
theorem dX9_never_1 : decode cX9_never 1 = .ok (.getfield 44, 3) := by decide +kernel
theorem dX9_never_4 : decode cX9_never 4 = .ok (.invokevirtual 202, 3) := by decide +kernel
theorem dX9_never_7 : decode cX9_never 7 = .ok (.ifCond .eq 17, 3) := by decide +kernel
theorem dX9_never_10 : decode cX9_never 10 = .ok (.aload_n 0, 1) := by decide +kernel
theorem dX9_never_11 : decode cX9_never 11 = .ok (.aload_n 0, 1) := by decide +kernel
theorem dX9_never_12 : decode cX9_never 12 = .ok (.getfield 44, 3) := by decide +kernel
theorem dX9_never_15 : decode cX9_never 15 = .ok (.invokevirtual 219, 3) := by decide +kernel
theorem dX9_never_18 : decode cX9_never 18 = .ok (.invokevirtual 97, 3) := by decide +kernel
theorem dX9_never_21 : decode cX9_never 21 = .ok (.goto 9, 3) := by decide +kernel
theorem dX9_never_24 : decode cX9_never 24 = .ok (.aload_n 0, 1) := by decide +kernel
theorem dX9_never_25 : decode cX9_never 25 = .ok (.bipush 6, 2) := by decide +kernel
theorem dX9_never_27 : decode cX9_never 27 = .ok (.invokevirtual 76, 3) := by decide +kernel
theorem dX9_never_30 : decode cX9_never 30 = .ok (.ireturn, 1) := by decide +kernel
theorem dX9_holdsAt_0 : decode cX9_holdsAt 0 = .ok (.aload_n 0, 1) := by decide +kernel
theorem dX9_holdsAt_1 : decode cX9_holdsAt 1 = .ok (.getfield 44, 3) := by decide +kernel
theorem dX9_holdsAt_4 : decode cX9_holdsAt 4 = .ok (.invokevirtual 202, 3) := by decide +kernel
theorem dX9_holdsAt_7 : decode cX9_holdsAt 7 = .ok (.ifCond .ne 10, 3) := by decide +kernel
theorem dX9_holdsAt_10 : decode cX9_holdsAt 10 = .ok (.aload_n 0, 1) := by decide +kernel
theorem dX9_holdsAt_11 : decode cX9_holdsAt 11 = .ok (.bipush 6, 2) := by decide +kernel
theorem dX9_holdsAt_13 : decode cX9_holdsAt 13 = .ok (.invokevirtual 76, 3) := by decide +kernel
theorem dX9_holdsAt_16 : decode cX9_holdsAt 16 = .ok (.ireturn, 1) := by decide +kernel
theorem dX9_holdsAt_17 : decode cX9_holdsAt 17 = .ok (.iload_n 1, 1) := by decide +kernel
theorem dX9_holdsAt_18 : decode cX9_holdsAt 18 = .ok (.ifCond .lt 17, 3) := by decide +kernel
theorem dX9_holdsAt_21 : decode cX9_holdsAt 21 = .ok (.iload_n 1, 1) := by decide +kernel
theorem dX9_holdsAt_22 : decode cX9_holdsAt 22 = .ok (.aload_n 0, 1) := by decide +kernel
theorem dX9_holdsAt_23 : decode cX9_holdsAt 23 = .ok (.getfield 44, 3) := by decide +kernel
theorem dX9_holdsAt_26 : decode cX9_holdsAt 26 = .ok (.getfield 213, 3) := by decide +kernel
theorem dX9_holdsAt_29 : decode cX9_holdsAt 29 = .ok (.getfield 113, 3) := by decide +kernel
theorem dX9_holdsAt_32 : decode cX9_holdsAt 32 = .ok (.if_icmp .lt 9, 3) := by decide +kernel
theorem dX9_holdsAt_35 : decode cX9_holdsAt 35 = .ok (.aload_n 0, 1) := by decide +kernel
theorem dX9_holdsAt_36 : decode cX9_holdsAt 36 = .ok (.iconst 1, 1) := by decide +kernel
theorem dX9_holdsAt_37 : decode cX9_holdsAt 37 = .ok (.invokevirtual 76, 3) := by decide +kernel
theorem dX9_holdsAt_40 : decode cX9_holdsAt 40 = .ok (.ireturn, 1) := by decide +kernel
theorem dX9_holdsAt_41 : decode cX9_holdsAt 41 = .ok (.aload_n 0, 1) := by decide +kernel
theorem dX9_holdsAt_42 : decode cX9_holdsAt 42 = .ok (.aload_n 0, 1) := by decide +kernel
theorem dX9_holdsAt_43 : decode cX9_holdsAt 43 = .ok (.getfield 44, 3) := by decide +kernel
theorem dX9_holdsAt_46 : decode cX9_holdsAt 46 = .ok (.iload_n 1, 1) := by decide +kernel
theorem dX9_holdsAt_47 : decode cX9_holdsAt 47 = .ok (.iload_n 2, 1) := by decide +kernel
theorem dX9_holdsAt_48 : decode cX9_holdsAt 48 = .ok (.invokevirtual 222, 3) := by decide +kernel
theorem dX9_holdsAt_51 : decode cX9_holdsAt 51 = .ok (.invokevirtual 97, 3) := by decide +kernel
theorem dX9_holdsAt_54 : decode cX9_holdsAt 54 = .ok (.ireturn, 1) := by decide +kernel
theorem dX9_stuck_0 : decode cX9_stuck 0 = .ok (.aload_n 0, 1) := by decide +kernel
theorem dX9_stuck_1 : decode cX9_stuck 1 = .ok (.getfield 44, 3) := by decide +kernel
theorem dX9_stuck_4 : decode cX9_stuck 4 = .ok (.invokevirtual 202, 3) := by decide +kernel
theorem dX9_stuck_7 : decode cX9_stuck 7 = .ok (.ifCond .ne 10, 3) := by decide +kernel
theorem dX9_stuck_10 : decode cX9_stuck 10 = .ok (.aload_n 0, 1) := by decide +kernel
theorem dX9_stuck_11 : decode cX9_stuck 11 = .ok (.bipush 6, 2) := by decide +kernel
theorem dX9_stuck_13 : decode cX9_stuck 13 = .ok (.invokevirtual 76, 3) := by decide +kernel
theorem dX9_stuck_16 : decode cX9_stuck 16 = .ok (.ireturn, 1) := by decide +kernel
theorem dX9_stuck_17 : decode cX9_stuck 17 = .ok (.iload_n 1, 1) := by decide +kernel
theorem dX9_stuck_18 : decode cX9_stuck 18 = .ok (.ifCond .lt 17, 3) := by decide +kernel
theorem dX9_stuck_21 : decode cX9_stuck 21 = .ok (.iload_n 1, 1) := by decide +kernel
theorem dX9_stuck_22 : decode cX9_stuck 22 = .ok (.aload_n 0, 1) := by decide +kernel
theorem dX9_stuck_23 : decode cX9_stuck 23 = .ok (.getfield 44, 3) := by decide +kernel
theorem dX9_stuck_26 : decode cX9_stuck 26 = .ok (.getfield 213, 3) := by decide +kernel
theorem dX9_stuck_29 : decode cX9_stuck 29 = .ok (.getfield 94, 3) := by decide +kernel
theorem dX9_stuck_32 : decode cX9_stuck 32 = .ok (.if_icmp .lt 9, 3) := by decide +kernel
theorem dX9_stuck_35 : decode cX9_stuck 35 = .ok (.aload_n 0, 1) := by decide +kernel
theorem dX9_stuck_36 : decode cX9_stuck 36 = .ok (.iconst 1, 1) := by decide +kernel
theorem dX9_stuck_37 : decode cX9_stuck 37 = .ok (.invokevirtual 76, 3) := by decide +kernel
theorem dX9_stuck_40 : decode cX9_stuck 40 = .ok (.ireturn, 1) := by decide +kernel
theorem dX9_stuck_41 : decode cX9_stuck 41 = .ok (.aload_n 0, 1) := by decide +kernel
theorem dX9_stuck_42 : decode cX9_stuck 42 = .ok (.aload_n 0, 1) := by decide +kernel
theorem dX9_stuck_43 : decode cX9_stuck 43 = .ok (.getfield 44, 3) := by decide +kernel
theorem dX9_stuck_46 : decode cX9_stuck 46 = .ok (.iload_n 1, 1) := by decide +kernel
theorem dX9_stuck_47 : decode cX9_stuck 47 = .ok (.invokevirtual 226, 3) := by decide +kernel
theorem dX9_stuck_50 : decode cX9_stuck 50 = .ok (.invokevirtual 97, 3) := by decide +kernel
theorem dX9_stuck_53 : decode cX9_stuck 53 = .ok (.ireturn, 1) := by decide +kernel
theorem dX9_least_0 : decode cX9_least 0 = .ok (.aload_n 0, 1) := by decide +kernel
theorem dX9_least_1 : decode cX9_least 1 = .ok (.getfield 44, 3) := by decide +kernel
theorem dX9_least_4 : decode cX9_least 4 = .ok (.invokevirtual 202, 3) := by decide +kernel
theorem dX9_least_7 : decode cX9_least 7 = .ok (.ifCond .eq 17, 3) := by decide +kernel
theorem dX9_least_10 : decode cX9_least 10 = .ok (.aload_n 0, 1) := by decide +kernel
theorem dX9_least_11 : decode cX9_least 11 = .ok (.aload_n 0, 1) := by decide +kernel
theorem dX9_least_12 : decode cX9_least 12 = .ok (.getfield 44, 3) := by decide +kernel
theorem dX9_least_15 : decode cX9_least 15 = .ok (.invokevirtual 229, 3) := by decide +kernel
theorem dX9_least_18 : decode cX9_least 18 = .ok (.invokevirtual 97, 3) := by decide +kernel
theorem dX9_least_21 : decode cX9_least 21 = .ok (.goto 9, 3) := by decide +kernel
theorem dX9_least_24 : decode cX9_least 24 = .ok (.aload_n 0, 1) := by decide +kernel
theorem dX9_least_25 : decode cX9_least 25 = .ok (.bipush 6, 2) := by decide +kernel
theorem dX9_least_27 : decode cX9_least 27 = .ok (.invokevirtual 76, 3) := by decide +kernel
theorem dX9_least_30 : decode cX9_least 30 = .ok (.ireturn, 1) := by decide +kernel
theorem dX9_views_0 : decode cX9_views 0 = .ok (.aload_n 0, 1) := by decide +kernel
theorem dX9_views_1 : decode cX9_views 1 = .ok (.getfield 44, 3) := by decide +kernel
theorem dX9_views_4 : decode cX9_views 4 = .ok (.invokevirtual 202, 3) := by decide +kernel
theorem dX9_views_7 : decode cX9_views 7 = .ok (.ifCond .eq 17, 3) := by decide +kernel
theorem dX9_views_10 : decode cX9_views 10 = .ok (.aload_n 0, 1) := by decide +kernel
theorem dX9_views_11 : decode cX9_views 11 = .ok (.aload_n 0, 1) := by decide +kernel
theorem dX9_views_12 : decode cX9_views 12 = .ok (.getfield 44, 3) := by decide +kernel
theorem dX9_views_15 : decode cX9_views 15 = .ok (.invokevirtual 232, 3) := by decide +kernel
theorem dX9_views_18 : decode cX9_views 18 = .ok (.invokevirtual 97, 3) := by decide +kernel
theorem dX9_views_21 : decode cX9_views 21 = .ok (.goto 9, 3) := by decide +kernel
theorem dX9_views_24 : decode cX9_views 24 = .ok (.aload_n 0, 1) := by decide +kernel
theorem dX9_views_25 : decode cX9_views 25 = .ok (.bipush 6, 2) := by decide +kernel
theorem dX9_views_27 : decode cX9_views 27 = .ok (.invokevirtual 76, 3) := by decide +kernel
theorem dX9_views_30 : decode cX9_views 30 = .ok (.ireturn, 1) := by decide +kernel
theorem dX9_farthest_0 : decode cX9_farthest 0 = .ok (.aload_n 0, 1) := by decide +kernel
theorem dX9_farthest_1 : decode cX9_farthest 1 = .ok (.getfield 44, 3) := by decide +kernel
theorem dX9_farthest_4 : decode cX9_farthest 4 = .ok (.invokevirtual 202, 3) := by decide +kernel
theorem dX9_farthest_7 : decode cX9_farthest 7 = .ok (.ifCond .eq 17, 3) := by decide +kernel
theorem dX9_farthest_10 : decode cX9_farthest 10 = .ok (.aload_n 0, 1) := by decide +kernel
theorem dX9_farthest_11 : decode cX9_farthest 11 = .ok (.aload_n 0, 1) := by decide +kernel
theorem dX9_farthest_12 : decode cX9_farthest 12 = .ok (.getfield 44, 3) := by decide +kernel
theorem dX9_farthest_15 : decode cX9_farthest 15 = .ok (.invokevirtual 235, 3) := by decide +kernel
theorem dX9_farthest_18 : decode cX9_farthest 18 = .ok (.invokevirtual 97, 3) := by decide +kernel
theorem dX9_farthest_21 : decode cX9_farthest 21 = .ok (.goto 9, 3) := by decide +kernel
theorem dX9_farthest_24 : decode cX9_farthest 24 = .ok (.aload_n 0, 1) := by decide +kernel
theorem dX9_farthest_25 : decode cX9_farthest 25 = .ok (.bipush 6, 2) := by decide +kernel
theorem dX9_farthest_27 : decode cX9_farthest 27 = .ok (.invokevirtual 76, 3) := by decide +kernel
theorem dX9_farthest_30 : decode cX9_farthest 30 = .ok (.ireturn, 1) := by decide +kernel
theorem dX9_ways_0 : decode cX9_ways 0 = .ok (.aload_n 0, 1) := by decide +kernel
theorem dX9_ways_1 : decode cX9_ways 1 = .ok (.getfield 44, 3) := by decide +kernel
theorem dX9_ways_4 : decode cX9_ways 4 = .ok (.invokevirtual 202, 3) := by decide +kernel
theorem dX9_ways_7 : decode cX9_ways 7 = .ok (.ifCond .eq 17, 3) := by decide +kernel
theorem dX9_ways_10 : decode cX9_ways 10 = .ok (.aload_n 0, 1) := by decide +kernel
theorem dX9_ways_11 : decode cX9_ways 11 = .ok (.aload_n 0, 1) := by decide +kernel
theorem dX9_ways_12 : decode cX9_ways 12 = .ok (.getfield 44, 3) := by decide +kernel
theorem dX9_ways_15 : decode cX9_ways 15 = .ok (.invokevirtual 238, 3) := by decide +kernel
theorem dX9_ways_18 : decode cX9_ways 18 = .ok (.invokevirtual 97, 3) := by decide +kernel
theorem dX9_ways_21 : decode cX9_ways 21 = .ok (.goto 9, 3) := by decide +kernel
theorem dX9_ways_24 : decode cX9_ways 24 = .ok (.aload_n 0, 1) := by decide +kernel
theorem dX9_ways_25 : decode cX9_ways 25 = .ok (.bipush 6, 2) := by decide +kernel
theorem dX9_ways_27 : decode cX9_ways 27 = .ok (.invokevirtual 76, 3) := by decide +kernel
theorem dX9_ways_30 : decode cX9_ways 30 = .ok (.ireturn, 1) := by decide +kernel
theorem dX9_push_0 : decode cX9_push 0 = .ok (.iload_n 1, 1) := by decide +kernel
theorem dX9_push_1 : decode cX9_push 1 = .ok (.ifCond .lt 9, 3) := by decide +kernel
theorem dX9_push_4 : decode cX9_push 4 = .ok (.iload_n 1, 1) := by decide +kernel
theorem dX9_push_5 : decode cX9_push 5 = .ok (.bipush 27, 2) := by decide +kernel
theorem dX9_push_7 : decode cX9_push 7 = .ok (.if_icmp .lt 9, 3) := by decide +kernel
theorem dX9_push_10 : decode cX9_push 10 = .ok (.aload_n 0, 1) := by decide +kernel
theorem dX9_push_11 : decode cX9_push 11 = .ok (.iconst 2, 1) := by decide +kernel
theorem dX9_push_12 : decode cX9_push 12 = .ok (.invokevirtual 76, 3) := by decide +kernel
theorem dX9_push_15 : decode cX9_push 15 = .ok (.ireturn, 1) := by decide +kernel
theorem dX9_push_16 : decode cX9_push 16 = .ok (.aload_n 0, 1) := by decide +kernel
theorem dX9_push_17 : decode cX9_push 17 = .ok (.getfield 60, 3) := by decide +kernel
theorem dX9_push_20 : decode cX9_push 20 = .ok (.sipush 400, 3) := by decide +kernel
theorem dX9_push_23 : decode cX9_push 23 = .ok (.if_icmp .lt 9, 3) := by decide +kernel
theorem dX9_push_26 : decode cX9_push 26 = .ok (.aload_n 0, 1) := by decide +kernel
theorem dX9_push_27 : decode cX9_push 27 = .ok (.iconst 4, 1) := by decide +kernel
theorem dX9_push_28 : decode cX9_push 28 = .ok (.invokevirtual 76, 3) := by decide +kernel
theorem dX9_push_31 : decode cX9_push 31 = .ok (.ireturn, 1) := by decide +kernel
theorem dX9_push_32 : decode cX9_push 32 = .ok (.aload_n 0, 1) := by decide +kernel
theorem dX9_push_33 : decode cX9_push 33 = .ok (.getfield 57, 3) := by decide +kernel
theorem dX9_push_36 : decode cX9_push 36 = .ok (.aload_n 0, 1) := by decide +kernel
theorem dX9_push_37 : decode cX9_push 37 = .ok (.getfield 60, 3) := by decide +kernel
theorem dX9_push_40 : decode cX9_push 40 = .ok (.iload_n 1, 1) := by decide +kernel
theorem dX9_push_41 : decode cX9_push 41 = .ok (.iastore, 1) := by decide +kernel
theorem dX9_push_42 : decode cX9_push 42 = .ok (.aload_n 0, 1) := by decide +kernel
theorem dX9_push_43 : decode cX9_push 43 = .ok (.dup, 1) := by decide +kernel
theorem dX9_push_44 : decode cX9_push 44 = .ok (.getfield 60, 3) := by decide +kernel
theorem dX9_push_47 : decode cX9_push 47 = .ok (.iconst 1, 1) := by decide +kernel
theorem dX9_push_48 : decode cX9_push 48 = .ok (.iadd, 1) := by decide +kernel
theorem dX9_push_49 : decode cX9_push 49 = .ok (.putfield 60, 3) := by decide +kernel
theorem dX9_push_52 : decode cX9_push 52 = .ok (.aload_n 0, 1) := by decide +kernel
theorem dX9_push_53 : decode cX9_push 53 = .ok (.aload_n 0, 1) := by decide +kernel
theorem dX9_push_54 : decode cX9_push 54 = .ok (.getfield 60, 3) := by decide +kernel
theorem dX9_push_57 : decode cX9_push 57 = .ok (.invokevirtual 97, 3) := by decide +kernel
theorem dX9_push_60 : decode cX9_push 60 = .ok (.ireturn, 1) := by decide +kernel
theorem dX9_cut_0 : decode cX9_cut 0 = .ok (.iload_n 1, 1) := by decide +kernel
theorem dX9_cut_1 : decode cX9_cut 1 = .ok (.ifCond .lt 11, 3) := by decide +kernel
theorem dX9_cut_4 : decode cX9_cut 4 = .ok (.iload_n 1, 1) := by decide +kernel
theorem dX9_cut_5 : decode cX9_cut 5 = .ok (.aload_n 0, 1) := by decide +kernel
theorem dX9_cut_6 : decode cX9_cut 6 = .ok (.getfield 60, 3) := by decide +kernel
theorem dX9_cut_9 : decode cX9_cut 9 = .ok (.if_icmp .le 10, 3) := by decide +kernel
theorem dX9_cut_12 : decode cX9_cut 12 = .ok (.aload_n 0, 1) := by decide +kernel
theorem dX9_cut_13 : decode cX9_cut 13 = .ok (.iconst 2, 1) := by decide +kernel
theorem dX9_cut_14 : decode cX9_cut 14 = .ok (.putfield 69, 3) := by decide +kernel
theorem dX9_cut_17 : decode cX9_cut 17 = .ok (.iconst 0, 1) := by decide +kernel
theorem dX9_cut_18 : decode cX9_cut 18 = .ok (.ireturn, 1) := by decide +kernel
theorem dX9_cut_19 : decode cX9_cut 19 = .ok (.aload_n 0, 1) := by decide +kernel
theorem dX9_cut_20 : decode cX9_cut 20 = .ok (.iload_n 1, 1) := by decide +kernel
theorem dX9_cut_21 : decode cX9_cut 21 = .ok (.putfield 60, 3) := by decide +kernel
theorem dX9_cut_24 : decode cX9_cut 24 = .ok (.aload_n 0, 1) := by decide +kernel
theorem dX9_cut_25 : decode cX9_cut 25 = .ok (.iconst 0, 1) := by decide +kernel
theorem dX9_cut_26 : decode cX9_cut 26 = .ok (.putfield 69, 3) := by decide +kernel
theorem dX9_cut_29 : decode cX9_cut 29 = .ok (.iconst 1, 1) := by decide +kernel
theorem dX9_cut_30 : decode cX9_cut 30 = .ok (.ireturn, 1) := by decide +kernel
theorem dX9_tryRow_0 : decode cX9_tryRow 0 = .ok (.aload_n 0, 1) := by decide +kernel
theorem dX9_tryRow_1 : decode cX9_tryRow 1 = .ok (.iload_n 1, 1) := by decide +kernel
theorem dX9_tryRow_2 : decode cX9_tryRow 2 = .ok (.invokevirtual 106, 3) := by decide +kernel
theorem dX9_tryRow_5 : decode cX9_tryRow 5 = .ok (.ifCond .ne 9, 3) := by decide +kernel
theorem dX9_tryRow_8 : decode cX9_tryRow 8 = .ok (.aload_n 0, 1) := by decide +kernel
theorem dX9_tryRow_9 : decode cX9_tryRow 9 = .ok (.iconst 1, 1) := by decide +kernel
theorem dX9_tryRow_10 : decode cX9_tryRow 10 = .ok (.invokevirtual 76, 3) := by decide +kernel
theorem dX9_tryRow_13 : decode cX9_tryRow 13 = .ok (.ireturn, 1) := by decide +kernel
theorem dX9_tryRow_14 : decode cX9_tryRow 14 = .ok (.aload_n 0, 1) := by decide +kernel
theorem dX9_tryRow_15 : decode cX9_tryRow 15 = .ok (.aload_n 0, 1) := by decide +kernel
theorem dX9_tryRow_16 : decode cX9_tryRow 16 = .ok (.aload_n 0, 1) := by decide +kernel
theorem dX9_tryRow_17 : decode cX9_tryRow 17 = .ok (.getfield 20, 3) := by decide +kernel
theorem dX9_tryRow_20 : decode cX9_tryRow 20 = .ok (.iload_n 1, 1) := by decide +kernel
theorem dX9_tryRow_21 : decode cX9_tryRow 21 = .ok (.aaload, 1) := by decide +kernel
theorem dX9_tryRow_22 : decode cX9_tryRow 22 = .ok (.invokevirtual 241, 3) := by decide +kernel
theorem dX9_tryRow_25 : decode cX9_tryRow 25 = .ok (.putfield 66, 3) := by decide +kernel
theorem dX9_tryRow_28 : decode cX9_tryRow 28 = .ok (.aload_n 0, 1) := by decide +kernel
theorem dX9_tryRow_29 : decode cX9_tryRow 29 = .ok (.aload_n 0, 1) := by decide +kernel
theorem dX9_tryRow_30 : decode cX9_tryRow 30 = .ok (.getfield 63, 3) := by decide +kernel
theorem dX9_tryRow_33 : decode cX9_tryRow 33 = .ok (.aload_n 0, 1) := by decide +kernel
theorem dX9_tryRow_34 : decode cX9_tryRow 34 = .ok (.getfield 66, 3) := by decide +kernel
theorem dX9_tryRow_37 : decode cX9_tryRow 37 = .ok (.laload, 1) := by decide +kernel
theorem dX9_tryRow_38 : decode cX9_tryRow 38 = .ok (.invokestatic 152, 3) := by decide +kernel
theorem dX9_tryRow_41 : decode cX9_tryRow 41 = .ok (.invokevirtual 97, 3) := by decide +kernel
theorem dX9_tryRow_44 : decode cX9_tryRow 44 = .ok (.ireturn, 1) := by decide +kernel
theorem dX9_tried_0 : decode cX9_tried 0 = .ok (.aload_n 0, 1) := by decide +kernel
theorem dX9_tried_1 : decode cX9_tried 1 = .ok (.getfield 66, 3) := by decide +kernel
theorem dX9_tried_4 : decode cX9_tried 4 = .ok (.ireturn, 1) := by decide +kernel
theorem dX9_shorter_0 : decode cX9_shorter 0 = .ok (.aload_n 0, 1) := by decide +kernel
theorem dX9_shorter_1 : decode cX9_shorter 1 = .ok (.iload_n 1, 1) := by decide +kernel
theorem dX9_shorter_2 : decode cX9_shorter 2 = .ok (.invokevirtual 106, 3) := by decide +kernel
theorem dX9_shorter_5 : decode cX9_shorter 5 = .ok (.ifCond .ne 9, 3) := by decide +kernel
theorem dX9_shorter_8 : decode cX9_shorter 8 = .ok (.aload_n 0, 1) := by decide +kernel
theorem dX9_shorter_9 : decode cX9_shorter 9 = .ok (.iconst 1, 1) := by decide +kernel
theorem dX9_shorter_10 : decode cX9_shorter 10 = .ok (.invokevirtual 76, 3) := by decide +kernel
theorem dX9_shorter_13 : decode cX9_shorter 13 = .ok (.ireturn, 1) := by decide +kernel
theorem dX9_shorter_14 : decode cX9_shorter 14 = .ok (.aload_n 0, 1) := by decide +kernel
theorem dX9_shorter_15 : decode cX9_shorter 15 = .ok (.getfield 20, 3) := by decide +kernel
theorem dX9_shorter_18 : decode cX9_shorter 18 = .ok (.iload_n 1, 1) := by decide +kernel
theorem dX9_shorter_19 : decode cX9_shorter 19 = .ok (.aaload, 1) := by decide +kernel
theorem dX9_shorter_20 : decode cX9_shorter 20 = .ok (.astore_n 2, 1) := by decide +kernel
theorem dX9_shorter_21 : decode cX9_shorter 21 = .ok (.aload_n 0, 1) := by decide +kernel
theorem dX9_shorter_22 : decode cX9_shorter 22 = .ok (.aload_n 2, 1) := by decide +kernel
theorem dX9_shorter_23 : decode cX9_shorter 23 = .ok (.invokevirtual 241, 3) := by decide +kernel
theorem dX9_shorter_26 : decode cX9_shorter 26 = .ok (.istore_n 3, 1) := by decide +kernel
theorem dX9_shorter_27 : decode cX9_shorter 27 = .ok (.aload_n 0, 1) := by decide +kernel
theorem dX9_shorter_28 : decode cX9_shorter 28 = .ok (.getfield 63, 3) := by decide +kernel
theorem dX9_shorter_31 : decode cX9_shorter 31 = .ok (.iload_n 3, 1) := by decide +kernel
theorem dX9_shorter_32 : decode cX9_shorter 32 = .ok (.laload, 1) := by decide +kernel
theorem dX9_shorter_33 : decode cX9_shorter 33 = .ok (.invokestatic 152, 3) := by decide +kernel
theorem dX9_shorter_36 : decode cX9_shorter 36 = .ok (.istore 4, 2) := by decide +kernel
theorem dX9_shorter_38 : decode cX9_shorter 38 = .ok (.iload 4, 2) := by decide +kernel
theorem dX9_shorter_40 : decode cX9_shorter 40 = .ok (.ifCond .ne 9, 3) := by decide +kernel
theorem dX9_shorter_43 : decode cX9_shorter 43 = .ok (.aload_n 0, 1) := by decide +kernel
theorem dX9_shorter_44 : decode cX9_shorter 44 = .ok (.iconst 4, 1) := by decide +kernel
theorem dX9_shorter_45 : decode cX9_shorter 45 = .ok (.invokevirtual 76, 3) := by decide +kernel
theorem dX9_shorter_48 : decode cX9_shorter 48 = .ok (.ireturn, 1) := by decide +kernel
theorem dX9_shorter_49 : decode cX9_shorter 49 = .ok (.aload_n 0, 1) := by decide +kernel
theorem dX9_shorter_50 : decode cX9_shorter 50 = .ok (.iload_n 3, 1) := by decide +kernel
theorem dX9_shorter_51 : decode cX9_shorter 51 = .ok (.putfield 60, 3) := by decide +kernel
theorem dX9_shorter_54 : decode cX9_shorter 54 = .ok (.iconst 1, 1) := by decide +kernel
theorem dX9_shorter_55 : decode cX9_shorter 55 = .ok (.istore 5, 2) := by decide +kernel
theorem dX9_shorter_57 : decode cX9_shorter 57 = .ok (.iconst 0, 1) := by decide +kernel
theorem dX9_shorter_58 : decode cX9_shorter 58 = .ok (.istore 6, 2) := by decide +kernel
theorem dX9_shorter_60 : decode cX9_shorter 60 = .ok (.iload 5, 2) := by decide +kernel
theorem dX9_shorter_62 : decode cX9_shorter 62 = .ok (.ifCond .eq 61, 3) := by decide +kernel
theorem dX9_shorter_65 : decode cX9_shorter 65 = .ok (.iload 6, 2) := by decide +kernel
theorem dX9_shorter_67 : decode cX9_shorter 67 = .ok (.sipush 400, 3) := by decide +kernel
theorem dX9_shorter_70 : decode cX9_shorter 70 = .ok (.if_icmp .gt 53, 3) := by decide +kernel
theorem dX9_shorter_73 : decode cX9_shorter 73 = .ok (.iconst 0, 1) := by decide +kernel
theorem dX9_shorter_74 : decode cX9_shorter 74 = .ok (.istore 5, 2) := by decide +kernel
theorem dX9_shorter_76 : decode cX9_shorter 76 = .ok (.aload_n 0, 1) := by decide +kernel
theorem dX9_shorter_77 : decode cX9_shorter 77 = .ok (.getfield 60, 3) := by decide +kernel
theorem dX9_shorter_80 : decode cX9_shorter 80 = .ok (.iconst 1, 1) := by decide +kernel
theorem dX9_shorter_81 : decode cX9_shorter 81 = .ok (.isub, 1) := by decide +kernel
theorem dX9_shorter_82 : decode cX9_shorter 82 = .ok (.istore 7, 2) := by decide +kernel
theorem dX9_shorter_84 : decode cX9_shorter 84 = .ok (.iload 7, 2) := by decide +kernel
theorem dX9_shorter_86 : decode cX9_shorter 86 = .ok (.ifCond .lt 31, 3) := by decide +kernel
theorem dX9_shorter_89 : decode cX9_shorter 89 = .ok (.aload_n 0, 1) := by decide +kernel
theorem dX9_shorter_90 : decode cX9_shorter 90 = .ok (.aload_n 2, 1) := by decide +kernel
theorem dX9_shorter_91 : decode cX9_shorter 91 = .ok (.iload 7, 2) := by decide +kernel
theorem dX9_shorter_93 : decode cX9_shorter 93 = .ok (.iload 4, 2) := by decide +kernel
theorem dX9_shorter_95 : decode cX9_shorter 95 = .ok (.invokevirtual 245, 3) := by decide +kernel
theorem dX9_shorter_98 : decode cX9_shorter 98 = .ok (.ifCond .eq 13, 3) := by decide +kernel
theorem dX9_shorter_101 : decode cX9_shorter 101 = .ok (.aload_n 0, 1) := by decide +kernel
theorem dX9_shorter_102 : decode cX9_shorter 102 = .ok (.aload_n 2, 1) := by decide +kernel
theorem dX9_shorter_103 : decode cX9_shorter 103 = .ok (.iload 7, 2) := by decide +kernel
theorem dX9_shorter_105 : decode cX9_shorter 105 = .ok (.invokevirtual 249, 3) := by decide +kernel
theorem dX9_shorter_108 : decode cX9_shorter 108 = .ok (.iconst 1, 1) := by decide +kernel
theorem dX9_shorter_109 : decode cX9_shorter 109 = .ok (.istore 5, 2) := by decide +kernel
theorem dX9_shorter_111 : decode cX9_shorter 111 = .ok (.iinc 7 (-1), 3) := by decide +kernel
theorem dX9_shorter_114 : decode cX9_shorter 114 = .ok (.goto (-30), 3) := by decide +kernel
theorem dX9_shorter_117 : decode cX9_shorter 117 = .ok (.iinc 6 1, 3) := by decide +kernel
theorem dX9_shorter_120 : decode cX9_shorter 120 = .ok (.goto (-60), 3) := by decide +kernel
theorem dX9_shorter_123 : decode cX9_shorter 123 = .ok (.aload_n 0, 1) := by decide +kernel
theorem dX9_shorter_124 : decode cX9_shorter 124 = .ok (.aload_n 0, 1) := by decide +kernel
theorem dX9_shorter_125 : decode cX9_shorter 125 = .ok (.getfield 60, 3) := by decide +kernel
theorem dX9_shorter_128 : decode cX9_shorter 128 = .ok (.invokevirtual 97, 3) := by decide +kernel
theorem dX9_shorter_131 : decode cX9_shorter 131 = .ok (.ireturn, 1) := by decide +kernel
theorem dX9_row_0 : decode cX9_row 0 = .ok (.iload_n 1, 1) := by decide +kernel
theorem dX9_row_1 : decode cX9_row 1 = .ok (.ifCond .lt 11, 3) := by decide +kernel
theorem dX9_row_4 : decode cX9_row 4 = .ok (.iload_n 1, 1) := by decide +kernel
theorem dX9_row_5 : decode cX9_row 5 = .ok (.aload_n 0, 1) := by decide +kernel
theorem dX9_row_6 : decode cX9_row 6 = .ok (.getfield 60, 3) := by decide +kernel
theorem dX9_row_9 : decode cX9_row 9 = .ok (.if_icmp .lt 11, 3) := by decide +kernel
theorem dX9_row_12 : decode cX9_row 12 = .ok (.new 253, 3) := by decide +kernel
theorem dX9_row_15 : decode cX9_row 15 = .ok (.dup, 1) := by decide +kernel
theorem dX9_row_16 : decode cX9_row 16 = .ok (.invokespecial 255, 3) := by decide +kernel
theorem dX9_row_19 : decode cX9_row 19 = .ok (.athrow, 1) := by decide +kernel
theorem dX9_row_20 : decode cX9_row 20 = .ok (.aload_n 0, 1) := by decide +kernel
theorem dX9_row_21 : decode cX9_row 21 = .ok (.getfield 57, 3) := by decide +kernel
theorem dX9_row_24 : decode cX9_row 24 = .ok (.iload_n 1, 1) := by decide +kernel
theorem dX9_row_25 : decode cX9_row 25 = .ok (.iaload, 1) := by decide +kernel
theorem dX9_row_26 : decode cX9_row 26 = .ok (.ireturn, 1) := by decide +kernel
theorem dX9_apart_0 : decode cX9_apart 0 = .ok (.aload_n 0, 1) := by decide +kernel
theorem dX9_apart_1 : decode cX9_apart 1 = .ok (.iconst 0, 1) := by decide +kernel
theorem dX9_apart_2 : decode cX9_apart 2 = .ok (.invokevirtual 106, 3) := by decide +kernel
theorem dX9_apart_5 : decode cX9_apart 5 = .ok (.ifCond .eq 11, 3) := by decide +kernel
theorem dX9_apart_8 : decode cX9_apart 8 = .ok (.aload_n 0, 1) := by decide +kernel
theorem dX9_apart_9 : decode cX9_apart 9 = .ok (.iconst 1, 1) := by decide +kernel
theorem dX9_apart_10 : decode cX9_apart 10 = .ok (.invokevirtual 106, 3) := by decide +kernel
theorem dX9_apart_13 : decode cX9_apart 13 = .ok (.ifCond .ne 9, 3) := by decide +kernel
theorem dX9_apart_16 : decode cX9_apart 16 = .ok (.aload_n 0, 1) := by decide +kernel
theorem dX9_apart_17 : decode cX9_apart 17 = .ok (.iconst 1, 1) := by decide +kernel
theorem dX9_apart_18 : decode cX9_apart 18 = .ok (.invokevirtual 76, 3) := by decide +kernel
theorem dX9_apart_21 : decode cX9_apart 21 = .ok (.ireturn, 1) := by decide +kernel
theorem dX9_apart_22 : decode cX9_apart 22 = .ok (.aload_n 0, 1) := by decide +kernel
theorem dX9_apart_23 : decode cX9_apart 23 = .ok (.getfield 53, 3) := by decide +kernel
theorem dX9_apart_26 : decode cX9_apart 26 = .ok (.aload_n 0, 1) := by decide +kernel
theorem dX9_apart_27 : decode cX9_apart 27 = .ok (.getfield 20, 3) := by decide +kernel
theorem dX9_apart_30 : decode cX9_apart 30 = .ok (.iconst 0, 1) := by decide +kernel
theorem dX9_apart_31 : decode cX9_apart 31 = .ok (.aaload, 1) := by decide +kernel
theorem dX9_apart_32 : decode cX9_apart 32 = .ok (.aload_n 0, 1) := by decide +kernel
theorem dX9_apart_33 : decode cX9_apart 33 = .ok (.getfield 20, 3) := by decide +kernel
theorem dX9_apart_36 : decode cX9_apart 36 = .ok (.iconst 1, 1) := by decide +kernel
theorem dX9_apart_37 : decode cX9_apart 37 = .ok (.aaload, 1) := by decide +kernel
theorem dX9_apart_38 : decode cX9_apart 38 = .ok (.invokevirtual 256, 3) := by decide +kernel
theorem dX9_apart_41 : decode cX9_apart 41 = .ok (.aload_n 0, 1) := by decide +kernel
theorem dX9_apart_42 : decode cX9_apart 42 = .ok (.getfield 53, 3) := by decide +kernel
theorem dX9_apart_45 : decode cX9_apart 45 = .ok (.getfield 259, 3) := by decide +kernel
theorem dX9_apart_48 : decode cX9_apart 48 = .ok (.ifCond .eq 9, 3) := by decide +kernel
theorem dX9_apart_51 : decode cX9_apart 51 = .ok (.aload_n 0, 1) := by decide +kernel
theorem dX9_apart_52 : decode cX9_apart 52 = .ok (.iconst 5, 1) := by decide +kernel
theorem dX9_apart_53 : decode cX9_apart 53 = .ok (.invokevirtual 76, 3) := by decide +kernel
theorem dX9_apart_56 : decode cX9_apart 56 = .ok (.ireturn, 1) := by decide +kernel
theorem dX9_apart_57 : decode cX9_apart 57 = .ok (.aload_n 0, 1) := by decide +kernel
theorem dX9_apart_58 : decode cX9_apart 58 = .ok (.getfield 53, 3) := by decide +kernel
theorem dX9_apart_61 : decode cX9_apart 61 = .ok (.getfield 263, 3) := by decide +kernel
theorem dX9_apart_64 : decode cX9_apart 64 = .ok (.iconst (-1), 1) := by decide +kernel
theorem dX9_apart_65 : decode cX9_apart 65 = .ok (.if_icmp .ne 10, 3) := by decide +kernel
theorem dX9_apart_68 : decode cX9_apart 68 = .ok (.aload_n 0, 1) := by decide +kernel
theorem dX9_apart_69 : decode cX9_apart 69 = .ok (.bipush (-2), 2) := by decide +kernel
theorem dX9_apart_71 : decode cX9_apart 71 = .ok (.invokevirtual 97, 3) := by decide +kernel
theorem dX9_apart_74 : decode cX9_apart 74 = .ok (.ireturn, 1) := by decide +kernel
theorem dX9_apart_75 : decode cX9_apart 75 = .ok (.aload_n 0, 1) := by decide +kernel
theorem dX9_apart_76 : decode cX9_apart 76 = .ok (.aload_n 0, 1) := by decide +kernel
theorem dX9_apart_77 : decode cX9_apart 77 = .ok (.getfield 53, 3) := by decide +kernel
theorem dX9_apart_80 : decode cX9_apart 80 = .ok (.aload_n 0, 1) := by decide +kernel
theorem dX9_apart_81 : decode cX9_apart 81 = .ok (.getfield 57, 3) := by decide +kernel
theorem dX9_apart_84 : decode cX9_apart 84 = .ok (.invokevirtual 266, 3) := by decide +kernel
theorem dX9_apart_87 : decode cX9_apart 87 = .ok (.putfield 60, 3) := by decide +kernel
theorem dX9_apart_90 : decode cX9_apart 90 = .ok (.aload_n 0, 1) := by decide +kernel
theorem dX9_apart_91 : decode cX9_apart 91 = .ok (.aload_n 0, 1) := by decide +kernel
theorem dX9_apart_92 : decode cX9_apart 92 = .ok (.getfield 60, 3) := by decide +kernel
theorem dX9_apart_95 : decode cX9_apart 95 = .ok (.invokevirtual 97, 3) := by decide +kernel
theorem dX9_apart_98 : decode cX9_apart 98 = .ok (.ireturn, 1) := by decide +kernel
theorem dX9_count_0 : decode cX9_count 0 = .ok (.iload_n 1, 1) := by decide +kernel
theorem dX9_count_1 : decode cX9_count 1 = .ok (.tableswitch 72 0 4 #[35, 43, 51, 56, 61], 35) := by decide +kernel
theorem dX9_count_36 : decode cX9_count 36 = .ok (.aload_n 0, 1) := by decide +kernel
theorem dX9_count_37 : decode cX9_count 37 = .ok (.getfield 44, 3) := by decide +kernel
theorem dX9_count_40 : decode cX9_count 40 = .ok (.invokevirtual 178, 3) := by decide +kernel
theorem dX9_count_43 : decode cX9_count 43 = .ok (.ireturn, 1) := by decide +kernel
theorem dX9_count_44 : decode cX9_count 44 = .ok (.aload_n 0, 1) := by decide +kernel
theorem dX9_count_45 : decode cX9_count 45 = .ok (.getfield 44, 3) := by decide +kernel
theorem dX9_count_48 : decode cX9_count 48 = .ok (.getfield 88, 3) := by decide +kernel
theorem dX9_count_51 : decode cX9_count 51 = .ok (.ireturn, 1) := by decide +kernel
theorem dX9_count_52 : decode cX9_count 52 = .ok (.aload_n 0, 1) := by decide +kernel
theorem dX9_count_53 : decode cX9_count 53 = .ok (.getfield 60, 3) := by decide +kernel
theorem dX9_count_56 : decode cX9_count 56 = .ok (.ireturn, 1) := by decide +kernel
theorem dX9_count_57 : decode cX9_count 57 = .ok (.aload_n 0, 1) := by decide +kernel
theorem dX9_count_58 : decode cX9_count 58 = .ok (.getfield 13, 3) := by decide +kernel
theorem dX9_count_61 : decode cX9_count 61 = .ok (.ireturn, 1) := by decide +kernel
theorem dX9_count_62 : decode cX9_count 62 = .ok (.aload_n 0, 1) := by decide +kernel
theorem dX9_count_63 : decode cX9_count 63 = .ok (.getfield 53, 3) := by decide +kernel
theorem dX9_count_66 : decode cX9_count 66 = .ok (.getfield 270, 3) := by decide +kernel
theorem dX9_count_69 : decode cX9_count 69 = .ok (.getfield 273, 3) := by decide +kernel
theorem dX9_count_72 : decode cX9_count 72 = .ok (.ireturn, 1) := by decide +kernel
theorem dX9_count_73 : decode cX9_count 73 = .ok (.iconst (-1), 1) := by decide +kernel
theorem dX9_count_74 : decode cX9_count 74 = .ok (.ireturn, 1) := by decide +kernel
theorem dX9_trouble_0 : decode cX9_trouble 0 = .ok (.aload_n 0, 1) := by decide +kernel
theorem dX9_trouble_1 : decode cX9_trouble 1 = .ok (.getfield 69, 3) := by decide +kernel
theorem dX9_trouble_4 : decode cX9_trouble 4 = .ok (.ireturn, 1) := by decide +kernel
theorem dX9_has_0 : decode cX9_has 0 = .ok (.iload_n 1, 1) := by decide +kernel
theorem dX9_has_1 : decode cX9_has 1 = .ok (.ifCond .lt 24, 3) := by decide +kernel
theorem dX9_has_4 : decode cX9_has 4 = .ok (.iload_n 1, 1) := by decide +kernel
theorem dX9_has_5 : decode cX9_has 5 = .ok (.iconst 2, 1) := by decide +kernel
theorem dX9_has_6 : decode cX9_has 6 = .ok (.if_icmp .ge 19, 3) := by decide +kernel
theorem dX9_has_9 : decode cX9_has 9 = .ok (.aload_n 0, 1) := by decide +kernel
theorem dX9_has_10 : decode cX9_has 10 = .ok (.getfield 20, 3) := by decide +kernel
theorem dX9_has_13 : decode cX9_has 13 = .ok (.iload_n 1, 1) := by decide +kernel
theorem dX9_has_14 : decode cX9_has 14 = .ok (.aaload, 1) := by decide +kernel
theorem dX9_has_15 : decode cX9_has 15 = .ok (.getfield 94, 3) := by decide +kernel
theorem dX9_has_18 : decode cX9_has 18 = .ok (.ifCond .le 7, 3) := by decide +kernel
theorem dX9_has_21 : decode cX9_has 21 = .ok (.iconst 1, 1) := by decide +kernel
theorem dX9_has_22 : decode cX9_has 22 = .ok (.goto 4, 3) := by decide +kernel
theorem dX9_has_25 : decode cX9_has 25 = .ok (.iconst 0, 1) := by decide +kernel
theorem dX9_has_26 : decode cX9_has 26 = .ok (.ireturn, 1) := by decide +kernel
theorem dX9_refused_0 : decode cX9_refused 0 = .ok (.aload_n 0, 1) := by decide +kernel
theorem dX9_refused_1 : decode cX9_refused 1 = .ok (.iload_n 1, 1) := by decide +kernel
theorem dX9_refused_2 : decode cX9_refused 2 = .ok (.putfield 69, 3) := by decide +kernel
theorem dX9_refused_5 : decode cX9_refused 5 = .ok (.iconst (-1), 1) := by decide +kernel
theorem dX9_refused_6 : decode cX9_refused 6 = .ok (.ireturn, 1) := by decide +kernel
theorem dX9_granted_0 : decode cX9_granted 0 = .ok (.aload_n 0, 1) := by decide +kernel
theorem dX9_granted_1 : decode cX9_granted 1 = .ok (.iconst 0, 1) := by decide +kernel
theorem dX9_granted_2 : decode cX9_granted 2 = .ok (.putfield 69, 3) := by decide +kernel
theorem dX9_granted_5 : decode cX9_granted 5 = .ok (.iload_n 1, 1) := by decide +kernel
theorem dX9_granted_6 : decode cX9_granted 6 = .ok (.ireturn, 1) := by decide +kernel
theorem dX9_wind_0 : decode cX9_wind 0 = .ok (.bipush 24, 2) := by decide +kernel
theorem dX9_wind_2 : decode cX9_wind 2 = .ok (.istore_n 2, 1) := by decide +kernel
theorem dX9_wind_3 : decode cX9_wind 3 = .ok (.iload_n 2, 1) := by decide +kernel
theorem dX9_wind_4 : decode cX9_wind 4 = .ok (.ifCond .lt 45, 3) := by decide +kernel
theorem dX9_wind_7 : decode cX9_wind 7 = .ok (.aload_n 0, 1) := by decide +kernel
theorem dX9_wind_8 : decode cX9_wind 8 = .ok (.getfield 13, 3) := by decide +kernel
theorem dX9_wind_11 : decode cX9_wind 11 = .ok (.sipush 800, 3) := by decide +kernel
theorem dX9_wind_14 : decode cX9_wind 14 = .ok (.if_icmp .ge 35, 3) := by decide +kernel
theorem dX9_wind_17 : decode cX9_wind 17 = .ok (.aload_n 0, 1) := by decide +kernel
theorem dX9_wind_18 : decode cX9_wind 18 = .ok (.getfield 9, 3) := by decide +kernel
theorem dX9_wind_21 : decode cX9_wind 21 = .ok (.aload_n 0, 1) := by decide +kernel
theorem dX9_wind_22 : decode cX9_wind 22 = .ok (.getfield 13, 3) := by decide +kernel
theorem dX9_wind_25 : decode cX9_wind 25 = .ok (.iload_n 1, 1) := by decide +kernel
theorem dX9_wind_26 : decode cX9_wind 26 = .ok (.iload_n 2, 1) := by decide +kernel
theorem dX9_wind_27 : decode cX9_wind 27 = .ok (.iushr, 1) := by decide +kernel
theorem dX9_wind_28 : decode cX9_wind 28 = .ok (.sipush 255, 3) := by decide +kernel
theorem dX9_wind_31 : decode cX9_wind 31 = .ok (.iand, 1) := by decide +kernel
theorem dX9_wind_32 : decode cX9_wind 32 = .ok (.iastore, 1) := by decide +kernel
theorem dX9_wind_33 : decode cX9_wind 33 = .ok (.aload_n 0, 1) := by decide +kernel
theorem dX9_wind_34 : decode cX9_wind 34 = .ok (.dup, 1) := by decide +kernel
theorem dX9_wind_35 : decode cX9_wind 35 = .ok (.getfield 13, 3) := by decide +kernel
theorem dX9_wind_38 : decode cX9_wind 38 = .ok (.iconst 1, 1) := by decide +kernel
theorem dX9_wind_39 : decode cX9_wind 39 = .ok (.iadd, 1) := by decide +kernel
theorem dX9_wind_40 : decode cX9_wind 40 = .ok (.putfield 13, 3) := by decide +kernel
theorem dX9_wind_43 : decode cX9_wind 43 = .ok (.iinc 2 (-8), 3) := by decide +kernel
theorem dX9_wind_46 : decode cX9_wind 46 = .ok (.goto (-43), 3) := by decide +kernel
theorem dX9_wind_49 : decode cX9_wind 49 = .ok (.return_, 1) := by decide +kernel
theorem dX9_actsToFault_0 : decode cX9_actsToFault 0 = .ok (.aload_n 0, 1) := by decide +kernel
theorem dX9_actsToFault_1 : decode cX9_actsToFault 1 = .ok (.getfield 63, 3) := by decide +kernel
theorem dX9_actsToFault_4 : decode cX9_actsToFault 4 = .ok (.iconst 0, 1) := by decide +kernel
theorem dX9_actsToFault_5 : decode cX9_actsToFault 5 = .ok (.aload_n 1, 1) := by decide +kernel
theorem dX9_actsToFault_6 : decode cX9_actsToFault 6 = .ok (.invokevirtual 84, 3) := by decide +kernel
theorem dX9_actsToFault_9 : decode cX9_actsToFault 9 = .ok (.lastore, 1) := by decide +kernel
theorem dX9_actsToFault_10 : decode cX9_actsToFault 10 = .ok (.iconst 0, 1) := by decide +kernel
theorem dX9_actsToFault_11 : decode cX9_actsToFault 11 = .ok (.istore_n 2, 1) := by decide +kernel
theorem dX9_actsToFault_12 : decode cX9_actsToFault 12 = .ok (.iload_n 2, 1) := by decide +kernel
theorem dX9_actsToFault_13 : decode cX9_actsToFault 13 = .ok (.aload_n 0, 1) := by decide +kernel
theorem dX9_actsToFault_14 : decode cX9_actsToFault 14 = .ok (.getfield 60, 3) := by decide +kernel
theorem dX9_actsToFault_17 : decode cX9_actsToFault 17 = .ok (.if_icmp .ge 51, 3) := by decide +kernel
theorem dX9_actsToFault_20 : decode cX9_actsToFault 20 = .ok (.aload_n 0, 1) := by decide +kernel
theorem dX9_actsToFault_21 : decode cX9_actsToFault 21 = .ok (.getfield 63, 3) := by decide +kernel
theorem dX9_actsToFault_24 : decode cX9_actsToFault 24 = .ok (.iload_n 2, 1) := by decide +kernel
theorem dX9_actsToFault_25 : decode cX9_actsToFault 25 = .ok (.iconst 1, 1) := by decide +kernel
theorem dX9_actsToFault_26 : decode cX9_actsToFault 26 = .ok (.iadd, 1) := by decide +kernel
theorem dX9_actsToFault_27 : decode cX9_actsToFault 27 = .ok (.aload_n 1, 1) := by decide +kernel
theorem dX9_actsToFault_28 : decode cX9_actsToFault 28 = .ok (.aload_n 0, 1) := by decide +kernel
theorem dX9_actsToFault_29 : decode cX9_actsToFault 29 = .ok (.getfield 63, 3) := by decide +kernel
theorem dX9_actsToFault_32 : decode cX9_actsToFault 32 = .ok (.iload_n 2, 1) := by decide +kernel
theorem dX9_actsToFault_33 : decode cX9_actsToFault 33 = .ok (.laload, 1) := by decide +kernel
theorem dX9_actsToFault_34 : decode cX9_actsToFault 34 = .ok (.aload_n 0, 1) := by decide +kernel
theorem dX9_actsToFault_35 : decode cX9_actsToFault 35 = .ok (.getfield 57, 3) := by decide +kernel
theorem dX9_actsToFault_38 : decode cX9_actsToFault 38 = .ok (.iload_n 2, 1) := by decide +kernel
theorem dX9_actsToFault_39 : decode cX9_actsToFault 39 = .ok (.iaload, 1) := by decide +kernel
theorem dX9_actsToFault_40 : decode cX9_actsToFault 40 = .ok (.invokevirtual 275, 3) := by decide +kernel
theorem dX9_actsToFault_43 : decode cX9_actsToFault 43 = .ok (.lastore, 1) := by decide +kernel
theorem dX9_actsToFault_44 : decode cX9_actsToFault 44 = .ok (.aload_n 0, 1) := by decide +kernel
theorem dX9_actsToFault_45 : decode cX9_actsToFault 45 = .ok (.getfield 63, 3) := by decide +kernel
theorem dX9_actsToFault_48 : decode cX9_actsToFault 48 = .ok (.iload_n 2, 1) := by decide +kernel
theorem dX9_actsToFault_49 : decode cX9_actsToFault 49 = .ok (.iconst 1, 1) := by decide +kernel
theorem dX9_actsToFault_50 : decode cX9_actsToFault 50 = .ok (.iadd, 1) := by decide +kernel
theorem dX9_actsToFault_51 : decode cX9_actsToFault 51 = .ok (.laload, 1) := by decide +kernel
theorem dX9_actsToFault_52 : decode cX9_actsToFault 52 = .ok (.invokestatic 152, 3) := by decide +kernel
theorem dX9_actsToFault_55 : decode cX9_actsToFault 55 = .ok (.ifCond .le 7, 3) := by decide +kernel
theorem dX9_actsToFault_58 : decode cX9_actsToFault 58 = .ok (.iload_n 2, 1) := by decide +kernel
theorem dX9_actsToFault_59 : decode cX9_actsToFault 59 = .ok (.iconst 1, 1) := by decide +kernel
theorem dX9_actsToFault_60 : decode cX9_actsToFault 60 = .ok (.iadd, 1) := by decide +kernel
theorem dX9_actsToFault_61 : decode cX9_actsToFault 61 = .ok (.ireturn, 1) := by decide +kernel
theorem dX9_actsToFault_62 : decode cX9_actsToFault 62 = .ok (.iinc 2 1, 3) := by decide +kernel
theorem dX9_actsToFault_65 : decode cX9_actsToFault 65 = .ok (.goto (-53), 3) := by decide +kernel
theorem dX9_actsToFault_68 : decode cX9_actsToFault 68 = .ok (.aload_n 0, 1) := by decide +kernel
theorem dX9_actsToFault_69 : decode cX9_actsToFault 69 = .ok (.getfield 60, 3) := by decide +kernel
theorem dX9_actsToFault_72 : decode cX9_actsToFault 72 = .ok (.ireturn, 1) := by decide +kernel
theorem dX9_comesWithout_0 : decode cX9_comesWithout 0 = .ok (.aload_n 0, 1) := by decide +kernel
theorem dX9_comesWithout_1 : decode cX9_comesWithout 1 = .ok (.getfield 63, 3) := by decide +kernel
theorem dX9_comesWithout_4 : decode cX9_comesWithout 4 = .ok (.iload_n 2, 1) := by decide +kernel
theorem dX9_comesWithout_5 : decode cX9_comesWithout 5 = .ok (.laload, 1) := by decide +kernel
theorem dX9_comesWithout_6 : decode cX9_comesWithout 6 = .ok (.lstore 4, 2) := by decide +kernel
theorem dX9_comesWithout_8 : decode cX9_comesWithout 8 = .ok (.iload_n 2, 1) := by decide +kernel
theorem dX9_comesWithout_9 : decode cX9_comesWithout 9 = .ok (.iconst 1, 1) := by decide +kernel
theorem dX9_comesWithout_10 : decode cX9_comesWithout 10 = .ok (.iadd, 1) := by decide +kernel
theorem dX9_comesWithout_11 : decode cX9_comesWithout 11 = .ok (.istore 6, 2) := by decide +kernel
theorem dX9_comesWithout_13 : decode cX9_comesWithout 13 = .ok (.iload 6, 2) := by decide +kernel
theorem dX9_comesWithout_15 : decode cX9_comesWithout 15 = .ok (.aload_n 0, 1) := by decide +kernel
theorem dX9_comesWithout_16 : decode cX9_comesWithout 16 = .ok (.getfield 60, 3) := by decide +kernel
theorem dX9_comesWithout_19 : decode cX9_comesWithout 19 = .ok (.if_icmp .ge 50, 3) := by decide +kernel
theorem dX9_comesWithout_22 : decode cX9_comesWithout 22 = .ok (.lload 4, 2) := by decide +kernel
theorem dX9_comesWithout_24 : decode cX9_comesWithout 24 = .ok (.aload_n 0, 1) := by decide +kernel
theorem dX9_comesWithout_25 : decode cX9_comesWithout 25 = .ok (.getfield 63, 3) := by decide +kernel
theorem dX9_comesWithout_28 : decode cX9_comesWithout 28 = .ok (.iload 6, 2) := by decide +kernel
theorem dX9_comesWithout_30 : decode cX9_comesWithout 30 = .ok (.laload, 1) := by decide +kernel
theorem dX9_comesWithout_31 : decode cX9_comesWithout 31 = .ok (.lcmp, 1) := by decide +kernel
theorem dX9_comesWithout_32 : decode cX9_comesWithout 32 = .ok (.ifCond .ne 5, 3) := by decide +kernel
theorem dX9_comesWithout_35 : decode cX9_comesWithout 35 = .ok (.iconst 1, 1) := by decide +kernel
theorem dX9_comesWithout_36 : decode cX9_comesWithout 36 = .ok (.ireturn, 1) := by decide +kernel
theorem dX9_comesWithout_37 : decode cX9_comesWithout 37 = .ok (.aload_n 1, 1) := by decide +kernel
theorem dX9_comesWithout_38 : decode cX9_comesWithout 38 = .ok (.lload 4, 2) := by decide +kernel
theorem dX9_comesWithout_40 : decode cX9_comesWithout 40 = .ok (.aload_n 0, 1) := by decide +kernel
theorem dX9_comesWithout_41 : decode cX9_comesWithout 41 = .ok (.getfield 57, 3) := by decide +kernel
theorem dX9_comesWithout_44 : decode cX9_comesWithout 44 = .ok (.iload 6, 2) := by decide +kernel
theorem dX9_comesWithout_46 : decode cX9_comesWithout 46 = .ok (.iaload, 1) := by decide +kernel
theorem dX9_comesWithout_47 : decode cX9_comesWithout 47 = .ok (.invokevirtual 275, 3) := by decide +kernel
theorem dX9_comesWithout_50 : decode cX9_comesWithout 50 = .ok (.lstore 4, 2) := by decide +kernel
theorem dX9_comesWithout_52 : decode cX9_comesWithout 52 = .ok (.lload 4, 2) := by decide +kernel
theorem dX9_comesWithout_54 : decode cX9_comesWithout 54 = .ok (.invokestatic 152, 3) := by decide +kernel
theorem dX9_comesWithout_57 : decode cX9_comesWithout 57 = .ok (.ifCond .le 6, 3) := by decide +kernel
theorem dX9_comesWithout_60 : decode cX9_comesWithout 60 = .ok (.goto 9, 3) := by decide +kernel
theorem dX9_comesWithout_63 : decode cX9_comesWithout 63 = .ok (.iinc 6 1, 3) := by decide +kernel
theorem dX9_comesWithout_66 : decode cX9_comesWithout 66 = .ok (.goto (-53), 3) := by decide +kernel
theorem dX9_comesWithout_69 : decode cX9_comesWithout 69 = .ok (.lload 4, 2) := by decide +kernel
theorem dX9_comesWithout_71 : decode cX9_comesWithout 71 = .ok (.invokestatic 152, 3) := by decide +kernel
theorem dX9_comesWithout_74 : decode cX9_comesWithout 74 = .ok (.iload_n 3, 1) := by decide +kernel
theorem dX9_comesWithout_75 : decode cX9_comesWithout 75 = .ok (.if_icmp .ne 7, 3) := by decide +kernel
theorem dX9_comesWithout_78 : decode cX9_comesWithout 78 = .ok (.iconst 1, 1) := by decide +kernel
theorem dX9_comesWithout_79 : decode cX9_comesWithout 79 = .ok (.goto 4, 3) := by decide +kernel
theorem dX9_comesWithout_82 : decode cX9_comesWithout 82 = .ok (.iconst 0, 1) := by decide +kernel
theorem dX9_comesWithout_83 : decode cX9_comesWithout 83 = .ok (.ireturn, 1) := by decide +kernel
theorem dX9_leaveOut_0 : decode cX9_leaveOut 0 = .ok (.iload_n 2, 1) := by decide +kernel
theorem dX9_leaveOut_1 : decode cX9_leaveOut 1 = .ok (.istore_n 3, 1) := by decide +kernel
theorem dX9_leaveOut_2 : decode cX9_leaveOut 2 = .ok (.iload_n 3, 1) := by decide +kernel
theorem dX9_leaveOut_3 : decode cX9_leaveOut 3 = .ok (.aload_n 0, 1) := by decide +kernel
theorem dX9_leaveOut_4 : decode cX9_leaveOut 4 = .ok (.getfield 60, 3) := by decide +kernel
theorem dX9_leaveOut_7 : decode cX9_leaveOut 7 = .ok (.iconst 1, 1) := by decide +kernel
theorem dX9_leaveOut_8 : decode cX9_leaveOut 8 = .ok (.isub, 1) := by decide +kernel
theorem dX9_leaveOut_9 : decode cX9_leaveOut 9 = .ok (.if_icmp .ge 47, 3) := by decide +kernel
theorem dX9_leaveOut_12 : decode cX9_leaveOut 12 = .ok (.aload_n 0, 1) := by decide +kernel
theorem dX9_leaveOut_13 : decode cX9_leaveOut 13 = .ok (.getfield 57, 3) := by decide +kernel
theorem dX9_leaveOut_16 : decode cX9_leaveOut 16 = .ok (.iload_n 3, 1) := by decide +kernel
theorem dX9_leaveOut_17 : decode cX9_leaveOut 17 = .ok (.aload_n 0, 1) := by decide +kernel
theorem dX9_leaveOut_18 : decode cX9_leaveOut 18 = .ok (.getfield 57, 3) := by decide +kernel
theorem dX9_leaveOut_21 : decode cX9_leaveOut 21 = .ok (.iload_n 3, 1) := by decide +kernel
theorem dX9_leaveOut_22 : decode cX9_leaveOut 22 = .ok (.iconst 1, 1) := by decide +kernel
theorem dX9_leaveOut_23 : decode cX9_leaveOut 23 = .ok (.iadd, 1) := by decide +kernel
theorem dX9_leaveOut_24 : decode cX9_leaveOut 24 = .ok (.iaload, 1) := by decide +kernel
theorem dX9_leaveOut_25 : decode cX9_leaveOut 25 = .ok (.iastore, 1) := by decide +kernel
theorem dX9_leaveOut_26 : decode cX9_leaveOut 26 = .ok (.aload_n 0, 1) := by decide +kernel
theorem dX9_leaveOut_27 : decode cX9_leaveOut 27 = .ok (.getfield 63, 3) := by decide +kernel
theorem dX9_leaveOut_30 : decode cX9_leaveOut 30 = .ok (.iload_n 3, 1) := by decide +kernel
theorem dX9_leaveOut_31 : decode cX9_leaveOut 31 = .ok (.iconst 1, 1) := by decide +kernel
theorem dX9_leaveOut_32 : decode cX9_leaveOut 32 = .ok (.iadd, 1) := by decide +kernel
theorem dX9_leaveOut_33 : decode cX9_leaveOut 33 = .ok (.aload_n 1, 1) := by decide +kernel
theorem dX9_leaveOut_34 : decode cX9_leaveOut 34 = .ok (.aload_n 0, 1) := by decide +kernel
theorem dX9_leaveOut_35 : decode cX9_leaveOut 35 = .ok (.getfield 63, 3) := by decide +kernel
theorem dX9_leaveOut_38 : decode cX9_leaveOut 38 = .ok (.iload_n 3, 1) := by decide +kernel
theorem dX9_leaveOut_39 : decode cX9_leaveOut 39 = .ok (.laload, 1) := by decide +kernel
theorem dX9_leaveOut_40 : decode cX9_leaveOut 40 = .ok (.aload_n 0, 1) := by decide +kernel
theorem dX9_leaveOut_41 : decode cX9_leaveOut 41 = .ok (.getfield 57, 3) := by decide +kernel
theorem dX9_leaveOut_44 : decode cX9_leaveOut 44 = .ok (.iload_n 3, 1) := by decide +kernel
theorem dX9_leaveOut_45 : decode cX9_leaveOut 45 = .ok (.iaload, 1) := by decide +kernel
theorem dX9_leaveOut_46 : decode cX9_leaveOut 46 = .ok (.invokevirtual 275, 3) := by decide +kernel
theorem dX9_leaveOut_49 : decode cX9_leaveOut 49 = .ok (.lastore, 1) := by decide +kernel
theorem dX9_leaveOut_50 : decode cX9_leaveOut 50 = .ok (.iinc 3 1, 3) := by decide +kernel
theorem dX9_leaveOut_53 : decode cX9_leaveOut 53 = .ok (.goto (-51), 3) := by decide +kernel
theorem dX9_leaveOut_56 : decode cX9_leaveOut 56 = .ok (.aload_n 0, 1) := by decide +kernel
theorem dX9_leaveOut_57 : decode cX9_leaveOut 57 = .ok (.dup, 1) := by decide +kernel
theorem dX9_leaveOut_58 : decode cX9_leaveOut 58 = .ok (.getfield 60, 3) := by decide +kernel
theorem dX9_leaveOut_61 : decode cX9_leaveOut 61 = .ok (.iconst 1, 1) := by decide +kernel
theorem dX9_leaveOut_62 : decode cX9_leaveOut 62 = .ok (.isub, 1) := by decide +kernel
theorem dX9_leaveOut_63 : decode cX9_leaveOut 63 = .ok (.putfield 60, 3) := by decide +kernel
theorem dX9_leaveOut_66 : decode cX9_leaveOut 66 = .ok (.return_, 1) := by decide +kernel
theorem dX10_init_0 : decode cX10_init 0 = .ok (.aload_n 0, 1) := by decide +kernel
theorem dX10_init_1 : decode cX10_init 1 = .ok (.invokespecial 3, 3) := by decide +kernel
theorem dX10_init_4 : decode cX10_init 4 = .ok (.aload_n 0, 1) := by decide +kernel
theorem dX10_init_5 : decode cX10_init 5 = .ok (.bipush 8, 2) := by decide +kernel
theorem dX10_init_7 : decode cX10_init 7 = .ok (.newarray .long, 2) := by decide +kernel
theorem dX10_init_9 : decode cX10_init 9 = .ok (.putfield 9, 3) := by decide +kernel
theorem dX10_init_12 : decode cX10_init 12 = .ok (.aload_n 0, 1) := by decide +kernel
theorem dX10_init_13 : decode cX10_init 13 = .ok (.bipush 24, 2) := by decide +kernel
theorem dX10_init_15 : decode cX10_init 15 = .ok (.newarray .long, 2) := by decide +kernel
theorem dX10_init_17 : decode cX10_init 17 = .ok (.putfield 15, 3) := by decide +kernel
theorem dX10_init_20 : decode cX10_init 20 = .ok (.aload_n 0, 1) := by decide +kernel
theorem dX10_init_21 : decode cX10_init 21 = .ok (.bipush 6, 2) := by decide +kernel
theorem dX10_init_23 : decode cX10_init 23 = .ok (.newarray .long, 2) := by decide +kernel
theorem dX10_init_25 : decode cX10_init 25 = .ok (.putfield 18, 3) := by decide +kernel
theorem dX10_init_28 : decode cX10_init 28 = .ok (.aload_n 0, 1) := by decide +kernel
theorem dX10_init_29 : decode cX10_init 29 = .ok (.bipush 6, 2) := by decide +kernel
theorem dX10_init_31 : decode cX10_init 31 = .ok (.newarray .int, 2) := by decide +kernel
theorem dX10_init_33 : decode cX10_init 33 = .ok (.putfield 21, 3) := by decide +kernel
theorem dX10_init_36 : decode cX10_init 36 = .ok (.aload_n 0, 1) := by decide +kernel
theorem dX10_init_37 : decode cX10_init 37 = .ok (.bipush 8, 2) := by decide +kernel
theorem dX10_init_39 : decode cX10_init 39 = .ok (.newarray .int, 2) := by decide +kernel
theorem dX10_init_41 : decode cX10_init 41 = .ok (.putfield 25, 3) := by decide +kernel
theorem dX10_init_44 : decode cX10_init 44 = .ok (.aload_n 0, 1) := by decide +kernel
theorem dX10_init_45 : decode cX10_init 45 = .ok (.bipush 48, 2) := by decide +kernel
theorem dX10_init_47 : decode cX10_init 47 = .ok (.newarray .int, 2) := by decide +kernel
theorem dX10_init_49 : decode cX10_init 49 = .ok (.putfield 28, 3) := by decide +kernel
theorem dX10_init_52 : decode cX10_init 52 = .ok (.aload_n 0, 1) := by decide +kernel
theorem dX10_init_53 : decode cX10_init 53 = .ok (.bipush 8, 2) := by decide +kernel
theorem dX10_init_55 : decode cX10_init 55 = .ok (.newarray .int, 2) := by decide +kernel
theorem dX10_init_57 : decode cX10_init 57 = .ok (.putfield 31, 3) := by decide +kernel
theorem dX10_init_60 : decode cX10_init 60 = .ok (.aload_n 0, 1) := by decide +kernel
theorem dX10_init_61 : decode cX10_init 61 = .ok (.bipush 6, 2) := by decide +kernel
theorem dX10_init_63 : decode cX10_init 63 = .ok (.newarray .boolean, 2) := by decide +kernel
theorem dX10_init_65 : decode cX10_init 65 = .ok (.putfield 34, 3) := by decide +kernel
theorem dX10_init_68 : decode cX10_init 68 = .ok (.aload_n 0, 1) := by decide +kernel
theorem dX10_init_69 : decode cX10_init 69 = .ok (.bipush 32, 2) := by decide +kernel
theorem dX10_init_71 : decode cX10_init 71 = .ok (.newarray .int, 2) := by decide +kernel
theorem dX10_init_73 : decode cX10_init 73 = .ok (.putfield 38, 3) := by decide +kernel
theorem dX10_init_76 : decode cX10_init 76 = .ok (.aload_n 0, 1) := by decide +kernel
theorem dX10_init_77 : decode cX10_init 77 = .ok (.sipush 128, 3) := by decide +kernel
theorem dX10_init_80 : decode cX10_init 80 = .ok (.newarray .int, 2) := by decide +kernel
theorem dX10_init_82 : decode cX10_init 82 = .ok (.putfield 41, 3) := by decide +kernel
theorem dX10_init_85 : decode cX10_init 85 = .ok (.aload_n 0, 1) := by decide +kernel
theorem dX10_init_86 : decode cX10_init 86 = .ok (.sipush 128, 3) := by decide +kernel
theorem dX10_init_89 : decode cX10_init 89 = .ok (.newarray .int, 2) := by decide +kernel
theorem dX10_init_91 : decode cX10_init 91 = .ok (.putfield 44, 3) := by decide +kernel
theorem dX10_init_94 : decode cX10_init 94 = .ok (.aload_n 0, 1) := by decide +kernel
theorem dX10_init_95 : decode cX10_init 95 = .ok (.sipush 128, 3) := by decide +kernel
theorem dX10_init_98 : decode cX10_init 98 = .ok (.newarray .int, 2) := by decide +kernel
theorem dX10_init_100 : decode cX10_init 100 = .ok (.putfield 47, 3) := by decide +kernel
theorem dX10_init_103 : decode cX10_init 103 = .ok (.aload_n 0, 1) := by decide +kernel
theorem dX10_init_104 : decode cX10_init 104 = .ok (.sipush 128, 3) := by decide +kernel
theorem dX10_init_107 : decode cX10_init 107 = .ok (.newarray .long, 2) := by decide +kernel
theorem dX10_init_109 : decode cX10_init 109 = .ok (.putfield 50, 3) := by decide +kernel
theorem dX10_init_112 : decode cX10_init 112 = .ok (.aload_n 0, 1) := by decide +kernel
theorem dX10_init_113 : decode cX10_init 113 = .ok (.sipush 128, 3) := by decide +kernel
theorem dX10_init_116 : decode cX10_init 116 = .ok (.newarray .int, 2) := by decide +kernel
theorem dX10_init_118 : decode cX10_init 118 = .ok (.putfield 53, 3) := by decide +kernel
theorem dX10_init_121 : decode cX10_init 121 = .ok (.aload_n 0, 1) := by decide +kernel
theorem dX10_init_122 : decode cX10_init 122 = .ok (.bipush 24, 2) := by decide +kernel
theorem dX10_init_124 : decode cX10_init 124 = .ok (.newarray .int, 2) := by decide +kernel
theorem dX10_init_126 : decode cX10_init 126 = .ok (.putfield 56, 3) := by decide +kernel
theorem dX10_init_129 : decode cX10_init 129 = .ok (.aload_n 0, 1) := by decide +kernel
theorem dX10_init_130 : decode cX10_init 130 = .ok (.bipush 24, 2) := by decide +kernel
theorem dX10_init_132 : decode cX10_init 132 = .ok (.newarray .int, 2) := by decide +kernel
theorem dX10_init_134 : decode cX10_init 134 = .ok (.putfield 59, 3) := by decide +kernel
theorem dX10_init_137 : decode cX10_init 137 = .ok (.aload_n 0, 1) := by decide +kernel
theorem dX10_init_138 : decode cX10_init 138 = .ok (.bipush 72, 2) := by decide +kernel
theorem dX10_init_140 : decode cX10_init 140 = .ok (.newarray .int, 2) := by decide +kernel
theorem dX10_init_142 : decode cX10_init 142 = .ok (.putfield 62, 3) := by decide +kernel
theorem dX10_init_145 : decode cX10_init 145 = .ok (.aload_n 0, 1) := by decide +kernel
theorem dX10_init_146 : decode cX10_init 146 = .ok (.bipush 72, 2) := by decide +kernel
theorem dX10_init_148 : decode cX10_init 148 = .ok (.newarray .int, 2) := by decide +kernel
theorem dX10_init_150 : decode cX10_init 150 = .ok (.putfield 65, 3) := by decide +kernel
theorem dX10_init_153 : decode cX10_init 153 = .ok (.aload_n 0, 1) := by decide +kernel
theorem dX10_init_154 : decode cX10_init 154 = .ok (.bipush 72, 2) := by decide +kernel
theorem dX10_init_156 : decode cX10_init 156 = .ok (.newarray .int, 2) := by decide +kernel
theorem dX10_init_158 : decode cX10_init 158 = .ok (.putfield 68, 3) := by decide +kernel
theorem dX10_init_161 : decode cX10_init 161 = .ok (.return_, 1) := by decide +kernel
theorem dX11_init_0 : decode cX11_init 0 = .ok (.aload_n 0, 1) := by decide +kernel
theorem dX11_init_1 : decode cX11_init 1 = .ok (.aconst_null, 1) := by decide +kernel
theorem dX11_init_2 : decode cX11_init 2 = .ok (.aconst_null, 1) := by decide +kernel
theorem dX11_init_3 : decode cX11_init 3 = .ok (.iconst 0, 1) := by decide +kernel
theorem dX11_init_4 : decode cX11_init 4 = .ok (.iconst 0, 1) := by decide +kernel
theorem dX11_init_5 : decode cX11_init 5 = .ok (.invokespecial 1, 3) := by decide +kernel
theorem dX11_init_8 : decode cX11_init 8 = .ok (.return_, 1) := by decide +kernel
theorem dX12_thrown_0 : decode cX12_thrown 0 = .ok (.aload_n 0, 1) := by decide +kernel
theorem dX12_thrown_1 : decode cX12_thrown 1 = .ok (.getfield 1, 3) := by decide +kernel
theorem dX12_thrown_4 : decode cX12_thrown 4 = .ok (.ireturn, 1) := by decide +kernel
theorem dX12_refused_0 : decode cX12_refused 0 = .ok (.aload_n 0, 1) := by decide +kernel
theorem dX12_refused_1 : decode cX12_refused 1 = .ok (.iload_n 1, 1) := by decide +kernel
theorem dX12_refused_2 : decode cX12_refused 2 = .ok (.putfield 7, 3) := by decide +kernel
theorem dX12_refused_5 : decode cX12_refused 5 = .ok (.aload_n 0, 1) := by decide +kernel
theorem dX12_refused_6 : decode cX12_refused 6 = .ok (.iconst (-1), 1) := by decide +kernel
theorem dX12_refused_7 : decode cX12_refused 7 = .ok (.putfield 10, 3) := by decide +kernel
theorem dX12_refused_10 : decode cX12_refused 10 = .ok (.iconst (-1), 1) := by decide +kernel
theorem dX12_refused_11 : decode cX12_refused 11 = .ok (.ireturn, 1) := by decide +kernel
theorem dX12_done_0 : decode cX12_done 0 = .ok (.aload_n 0, 1) := by decide +kernel
theorem dX12_done_1 : decode cX12_done 1 = .ok (.iconst 0, 1) := by decide +kernel
theorem dX12_done_2 : decode cX12_done 2 = .ok (.putfield 7, 3) := by decide +kernel
theorem dX12_done_5 : decode cX12_done 5 = .ok (.aload_n 0, 1) := by decide +kernel
theorem dX12_done_6 : decode cX12_done 6 = .ok (.iconst (-1), 1) := by decide +kernel
theorem dX12_done_7 : decode cX12_done 7 = .ok (.putfield 10, 3) := by decide +kernel
theorem dX12_done_10 : decode cX12_done 10 = .ok (.iload_n 1, 1) := by decide +kernel
theorem dX12_done_11 : decode cX12_done 11 = .ok (.ireturn, 1) := by decide +kernel
theorem dX12_init_0 : decode cX12_init 0 = .ok (.aload_n 0, 1) := by decide +kernel
theorem dX12_init_1 : decode cX12_init 1 = .ok (.invokespecial 13, 3) := by decide +kernel
theorem dX12_init_4 : decode cX12_init 4 = .ok (.aload_n 0, 1) := by decide +kernel
theorem dX12_init_5 : decode cX12_init 5 = .ok (.iconst (-1), 1) := by decide +kernel
theorem dX12_init_6 : decode cX12_init 6 = .ok (.putfield 10, 3) := by decide +kernel
theorem dX12_init_9 : decode cX12_init 9 = .ok (.aload_n 0, 1) := by decide +kernel
theorem dX12_init_10 : decode cX12_init 10 = .ok (.iconst 2, 1) := by decide +kernel
theorem dX12_init_11 : decode cX12_init 11 = .ok (.anewarray 19, 3) := by decide +kernel
theorem dX12_init_14 : decode cX12_init 14 = .ok (.putfield 21, 3) := by decide +kernel
theorem dX12_init_17 : decode cX12_init 17 = .ok (.aload_n 0, 1) := by decide +kernel
theorem dX12_init_18 : decode cX12_init 18 = .ok (.new 19, 3) := by decide +kernel
theorem dX12_init_21 : decode cX12_init 21 = .ok (.dup, 1) := by decide +kernel
theorem dX12_init_22 : decode cX12_init 22 = .ok (.invokespecial 25, 3) := by decide +kernel
theorem dX12_init_25 : decode cX12_init 25 = .ok (.putfield 26, 3) := by decide +kernel
theorem dX12_init_28 : decode cX12_init 28 = .ok (.aload_n 0, 1) := by decide +kernel
theorem dX12_init_29 : decode cX12_init 29 = .ok (.iconst 2, 1) := by decide +kernel
theorem dX12_init_30 : decode cX12_init 30 = .ok (.newarray .boolean, 2) := by decide +kernel
theorem dX12_init_32 : decode cX12_init 32 = .ok (.putfield 30, 3) := by decide +kernel
theorem dX12_init_35 : decode cX12_init 35 = .ok (.aload_n 0, 1) := by decide +kernel
theorem dX12_init_36 : decode cX12_init 36 = .ok (.iconst 2, 1) := by decide +kernel
theorem dX12_init_37 : decode cX12_init 37 = .ok (.newarray .long, 2) := by decide +kernel
theorem dX12_init_39 : decode cX12_init 39 = .ok (.putfield 34, 3) := by decide +kernel
theorem dX12_init_42 : decode cX12_init 42 = .ok (.aload_n 0, 1) := by decide +kernel
theorem dX12_init_43 : decode cX12_init 43 = .ok (.iconst 2, 1) := by decide +kernel
theorem dX12_init_44 : decode cX12_init 44 = .ok (.newarray .long, 2) := by decide +kernel
theorem dX12_init_46 : decode cX12_init 46 = .ok (.putfield 38, 3) := by decide +kernel
theorem dX12_init_49 : decode cX12_init 49 = .ok (.aload_n 0, 1) := by decide +kernel
theorem dX12_init_50 : decode cX12_init 50 = .ok (.new 41, 3) := by decide +kernel
theorem dX12_init_53 : decode cX12_init 53 = .ok (.dup, 1) := by decide +kernel
theorem dX12_init_54 : decode cX12_init 54 = .ok (.invokespecial 43, 3) := by decide +kernel
theorem dX12_init_57 : decode cX12_init 57 = .ok (.putfield 44, 3) := by decide +kernel
theorem dX12_init_60 : decode cX12_init 60 = .ok (.aload_n 0, 1) := by decide +kernel
theorem dX12_init_61 : decode cX12_init 61 = .ok (.sipush 800, 3) := by decide +kernel
theorem dX12_init_64 : decode cX12_init 64 = .ok (.newarray .byte, 2) := by decide +kernel
theorem dX12_init_66 : decode cX12_init 66 = .ok (.putfield 48, 3) := by decide +kernel
theorem dX12_init_69 : decode cX12_init 69 = .ok (.aload_n 0, 1) := by decide +kernel
theorem dX12_init_70 : decode cX12_init 70 = .ok (.iconst 5, 1) := by decide +kernel
theorem dX12_init_71 : decode cX12_init 71 = .ok (.newarray .int, 2) := by decide +kernel
theorem dX12_init_73 : decode cX12_init 73 = .ok (.putfield 52, 3) := by decide +kernel
theorem dX12_init_76 : decode cX12_init 76 = .ok (.aload_n 0, 1) := by decide +kernel
theorem dX12_init_77 : decode cX12_init 77 = .ok (.iconst 5, 1) := by decide +kernel
theorem dX12_init_78 : decode cX12_init 78 = .ok (.newarray .int, 2) := by decide +kernel
theorem dX12_init_80 : decode cX12_init 80 = .ok (.putfield 56, 3) := by decide +kernel
theorem dX12_init_83 : decode cX12_init 83 = .ok (.aload_n 0, 1) := by decide +kernel
theorem dX12_init_84 : decode cX12_init 84 = .ok (.bipush 6, 2) := by decide +kernel
theorem dX12_init_86 : decode cX12_init 86 = .ok (.newarray .int, 2) := by decide +kernel
theorem dX12_init_88 : decode cX12_init 88 = .ok (.putfield 59, 3) := by decide +kernel
theorem dX12_init_91 : decode cX12_init 91 = .ok (.aload_n 0, 1) := by decide +kernel
theorem dX12_init_92 : decode cX12_init 92 = .ok (.iconst (-1), 1) := by decide +kernel
theorem dX12_init_93 : decode cX12_init 93 = .ok (.putfield 62, 3) := by decide +kernel
theorem dX12_init_96 : decode cX12_init 96 = .ok (.aload_n 0, 1) := by decide +kernel
theorem dX12_init_97 : decode cX12_init 97 = .ok (.sipush 400, 3) := by decide +kernel
theorem dX12_init_100 : decode cX12_init 100 = .ok (.newarray .long, 2) := by decide +kernel
theorem dX12_init_102 : decode cX12_init 102 = .ok (.putfield 65, 3) := by decide +kernel
theorem dX12_init_105 : decode cX12_init 105 = .ok (.aload_n 0, 1) := by decide +kernel
theorem dX12_init_106 : decode cX12_init 106 = .ok (.sipush 400, 3) := by decide +kernel
theorem dX12_init_109 : decode cX12_init 109 = .ok (.newarray .long, 2) := by decide +kernel
theorem dX12_init_111 : decode cX12_init 111 = .ok (.putfield 68, 3) := by decide +kernel
theorem dX12_init_114 : decode cX12_init 114 = .ok (.aload_n 0, 1) := by decide +kernel
theorem dX12_init_115 : decode cX12_init 115 = .ok (.sipush 400, 3) := by decide +kernel
theorem dX12_init_118 : decode cX12_init 118 = .ok (.newarray .int, 2) := by decide +kernel
theorem dX12_init_120 : decode cX12_init 120 = .ok (.putfield 71, 3) := by decide +kernel
theorem dX12_init_123 : decode cX12_init 123 = .ok (.aload_n 0, 1) := by decide +kernel
theorem dX12_init_124 : decode cX12_init 124 = .ok (.sipush 400, 3) := by decide +kernel
theorem dX12_init_127 : decode cX12_init 127 = .ok (.newarray .int, 2) := by decide +kernel
theorem dX12_init_129 : decode cX12_init 129 = .ok (.putfield 74, 3) := by decide +kernel
theorem dX12_init_132 : decode cX12_init 132 = .ok (.aload_n 0, 1) := by decide +kernel
theorem dX12_init_133 : decode cX12_init 133 = .ok (.sipush 400, 3) := by decide +kernel
theorem dX12_init_136 : decode cX12_init 136 = .ok (.newarray .int, 2) := by decide +kernel
theorem dX12_init_138 : decode cX12_init 138 = .ok (.putfield 77, 3) := by decide +kernel
theorem dX12_init_141 : decode cX12_init 141 = .ok (.aload_n 0, 1) := by decide +kernel
theorem dX12_init_142 : decode cX12_init 142 = .ok (.sipush 400, 3) := by decide +kernel
theorem dX12_init_145 : decode cX12_init 145 = .ok (.newarray .int, 2) := by decide +kernel
theorem dX12_init_147 : decode cX12_init 147 = .ok (.putfield 80, 3) := by decide +kernel
theorem dX12_init_150 : decode cX12_init 150 = .ok (.aload_n 0, 1) := by decide +kernel
theorem dX12_init_151 : decode cX12_init 151 = .ok (.sipush 400, 3) := by decide +kernel
theorem dX12_init_154 : decode cX12_init 154 = .ok (.newarray .int, 2) := by decide +kernel
theorem dX12_init_156 : decode cX12_init 156 = .ok (.putfield 83, 3) := by decide +kernel
theorem dX12_init_159 : decode cX12_init 159 = .ok (.aload_n 0, 1) := by decide +kernel
theorem dX12_init_160 : decode cX12_init 160 = .ok (.sipush 400, 3) := by decide +kernel
theorem dX12_init_163 : decode cX12_init 163 = .ok (.newarray .int, 2) := by decide +kernel
theorem dX12_init_165 : decode cX12_init 165 = .ok (.putfield 86, 3) := by decide +kernel
theorem dX12_init_168 : decode cX12_init 168 = .ok (.aload_n 0, 1) := by decide +kernel
theorem dX12_init_169 : decode cX12_init 169 = .ok (.sipush 400, 3) := by decide +kernel
theorem dX12_init_172 : decode cX12_init 172 = .ok (.newarray .int, 2) := by decide +kernel
theorem dX12_init_174 : decode cX12_init 174 = .ok (.putfield 89, 3) := by decide +kernel
theorem dX12_init_177 : decode cX12_init 177 = .ok (.aload_n 0, 1) := by decide +kernel
theorem dX12_init_178 : decode cX12_init 178 = .ok (.sipush 10800, 3) := by decide +kernel
theorem dX12_init_181 : decode cX12_init 181 = .ok (.newarray .int, 2) := by decide +kernel
theorem dX12_init_183 : decode cX12_init 183 = .ok (.putfield 92, 3) := by decide +kernel
theorem dX12_init_186 : decode cX12_init 186 = .ok (.aload_n 0, 1) := by decide +kernel
theorem dX12_init_187 : decode cX12_init 187 = .ok (.sipush 400, 3) := by decide +kernel
theorem dX12_init_190 : decode cX12_init 190 = .ok (.newarray .long, 2) := by decide +kernel
theorem dX12_init_192 : decode cX12_init 192 = .ok (.putfield 95, 3) := by decide +kernel
theorem dX12_init_195 : decode cX12_init 195 = .ok (.aload_n 0, 1) := by decide +kernel
theorem dX12_init_196 : decode cX12_init 196 = .ok (.sipush 400, 3) := by decide +kernel
theorem dX12_init_199 : decode cX12_init 199 = .ok (.newarray .boolean, 2) := by decide +kernel
theorem dX12_init_201 : decode cX12_init 201 = .ok (.putfield 98, 3) := by decide +kernel
theorem dX12_init_204 : decode cX12_init 204 = .ok (.aload_n 0, 1) := by decide +kernel
theorem dX12_init_205 : decode cX12_init 205 = .ok (.sipush 400, 3) := by decide +kernel
theorem dX12_init_208 : decode cX12_init 208 = .ok (.newarray .int, 2) := by decide +kernel
theorem dX12_init_210 : decode cX12_init 210 = .ok (.putfield 101, 3) := by decide +kernel
theorem dX12_init_213 : decode cX12_init 213 = .ok (.aload_n 0, 1) := by decide +kernel
theorem dX12_init_214 : decode cX12_init 214 = .ok (.iconst (-1), 1) := by decide +kernel
theorem dX12_init_215 : decode cX12_init 215 = .ok (.putfield 104, 3) := by decide +kernel
theorem dX12_init_218 : decode cX12_init 218 = .ok (.aload_n 0, 1) := by decide +kernel
theorem dX12_init_219 : decode cX12_init 219 = .ok (.sipush 400, 3) := by decide +kernel
theorem dX12_init_222 : decode cX12_init 222 = .ok (.newarray .long, 2) := by decide +kernel
theorem dX12_init_224 : decode cX12_init 224 = .ok (.putfield 107, 3) := by decide +kernel
theorem dX12_init_227 : decode cX12_init 227 = .ok (.aload_n 0, 1) := by decide +kernel
theorem dX12_init_228 : decode cX12_init 228 = .ok (.sipush 400, 3) := by decide +kernel
theorem dX12_init_231 : decode cX12_init 231 = .ok (.newarray .long, 2) := by decide +kernel
theorem dX12_init_233 : decode cX12_init 233 = .ok (.putfield 110, 3) := by decide +kernel
theorem dX12_init_236 : decode cX12_init 236 = .ok (.aload_n 0, 1) := by decide +kernel
theorem dX12_init_237 : decode cX12_init 237 = .ok (.sipush 400, 3) := by decide +kernel
theorem dX12_init_240 : decode cX12_init 240 = .ok (.newarray .long, 2) := by decide +kernel
theorem dX12_init_242 : decode cX12_init 242 = .ok (.putfield 113, 3) := by decide +kernel
theorem dX12_init_245 : decode cX12_init 245 = .ok (.aload_n 0, 1) := by decide +kernel
theorem dX12_init_246 : decode cX12_init 246 = .ok (.sipush 400, 3) := by decide +kernel
theorem dX12_init_249 : decode cX12_init 249 = .ok (.newarray .long, 2) := by decide +kernel
theorem dX12_init_251 : decode cX12_init 251 = .ok (.putfield 116, 3) := by decide +kernel
theorem dX12_init_254 : decode cX12_init 254 = .ok (.aload_n 0, 1) := by decide +kernel
theorem dX12_init_255 : decode cX12_init 255 = .ok (.sipush 400, 3) := by decide +kernel
theorem dX12_init_258 : decode cX12_init 258 = .ok (.newarray .int, 2) := by decide +kernel
theorem dX12_init_260 : decode cX12_init 260 = .ok (.putfield 119, 3) := by decide +kernel
theorem dX12_init_263 : decode cX12_init 263 = .ok (.aload_n 0, 1) := by decide +kernel
theorem dX12_init_264 : decode cX12_init 264 = .ok (.sipush 400, 3) := by decide +kernel
theorem dX12_init_267 : decode cX12_init 267 = .ok (.newarray .int, 2) := by decide +kernel
theorem dX12_init_269 : decode cX12_init 269 = .ok (.putfield 122, 3) := by decide +kernel
theorem dX12_init_272 : decode cX12_init 272 = .ok (.aload_n 0, 1) := by decide +kernel
theorem dX12_init_273 : decode cX12_init 273 = .ok (.bipush 6, 2) := by decide +kernel
theorem dX12_init_275 : decode cX12_init 275 = .ok (.newarray .int, 2) := by decide +kernel
theorem dX12_init_277 : decode cX12_init 277 = .ok (.putfield 125, 3) := by decide +kernel
theorem dX12_init_280 : decode cX12_init 280 = .ok (.aload_n 0, 1) := by decide +kernel
theorem dX12_init_281 : decode cX12_init 281 = .ok (.bipush 24, 2) := by decide +kernel
theorem dX12_init_283 : decode cX12_init 283 = .ok (.newarray .long, 2) := by decide +kernel
theorem dX12_init_285 : decode cX12_init 285 = .ok (.putfield 128, 3) := by decide +kernel
theorem dX12_init_288 : decode cX12_init 288 = .ok (.aload_n 0, 1) := by decide +kernel
theorem dX12_init_289 : decode cX12_init 289 = .ok (.getfield 21, 3) := by decide +kernel
theorem dX12_init_292 : decode cX12_init 292 = .ok (.iconst 0, 1) := by decide +kernel
theorem dX12_init_293 : decode cX12_init 293 = .ok (.new 19, 3) := by decide +kernel
theorem dX12_init_296 : decode cX12_init 296 = .ok (.dup, 1) := by decide +kernel
theorem dX12_init_297 : decode cX12_init 297 = .ok (.invokespecial 25, 3) := by decide +kernel
theorem dX12_init_300 : decode cX12_init 300 = .ok (.aastore, 1) := by decide +kernel
theorem dX12_init_301 : decode cX12_init 301 = .ok (.aload_n 0, 1) := by decide +kernel
theorem dX12_init_302 : decode cX12_init 302 = .ok (.getfield 21, 3) := by decide +kernel
theorem dX12_init_305 : decode cX12_init 305 = .ok (.iconst 1, 1) := by decide +kernel
theorem dX12_init_306 : decode cX12_init 306 = .ok (.new 19, 3) := by decide +kernel
theorem dX12_init_309 : decode cX12_init 309 = .ok (.dup, 1) := by decide +kernel
theorem dX12_init_310 : decode cX12_init 310 = .ok (.invokespecial 25, 3) := by decide +kernel
theorem dX12_init_313 : decode cX12_init 313 = .ok (.aastore, 1) := by decide +kernel
theorem dX12_init_314 : decode cX12_init 314 = .ok (.return_, 1) := by decide +kernel
theorem dX12_isApp_0 : decode cX12_isApp 0 = .ok (.iload_n 1, 1) := by decide +kernel
theorem dX12_isApp_1 : decode cX12_isApp 1 = .ok (.ifCond .lt 21, 3) := by decide +kernel
theorem dX12_isApp_4 : decode cX12_isApp 4 = .ok (.iload_n 1, 1) := by decide +kernel
theorem dX12_isApp_5 : decode cX12_isApp 5 = .ok (.iconst 2, 1) := by decide +kernel
theorem dX12_isApp_6 : decode cX12_isApp 6 = .ok (.if_icmp .ge 16, 3) := by decide +kernel
theorem dX12_isApp_9 : decode cX12_isApp 9 = .ok (.aload_n 0, 1) := by decide +kernel
theorem dX12_isApp_10 : decode cX12_isApp 10 = .ok (.getfield 30, 3) := by decide +kernel
theorem dX12_isApp_13 : decode cX12_isApp 13 = .ok (.iload_n 1, 1) := by decide +kernel
theorem dX12_isApp_14 : decode cX12_isApp 14 = .ok (.baload, 1) := by decide +kernel
theorem dX12_isApp_15 : decode cX12_isApp 15 = .ok (.ifCond .eq 7, 3) := by decide +kernel
theorem dX12_isApp_18 : decode cX12_isApp 18 = .ok (.iconst 1, 1) := by decide +kernel
theorem dX12_isApp_19 : decode cX12_isApp 19 = .ok (.goto 4, 3) := by decide +kernel
theorem dX12_isApp_22 : decode cX12_isApp 22 = .ok (.iconst 0, 1) := by decide +kernel
theorem dX12_isApp_23 : decode cX12_isApp 23 = .ok (.ireturn, 1) := by decide +kernel
theorem dX12_stop_0 : decode cX12_stop 0 = .ok (.aload_n 0, 1) := by decide +kernel
theorem dX12_stop_1 : decode cX12_stop 1 = .ok (.getfield 44, 3) := by decide +kernel
theorem dX12_stop_4 : decode cX12_stop 4 = .ok (.iload_n 1, 1) := by decide +kernel
theorem dX12_stop_5 : decode cX12_stop 5 = .ok (.putfield 131, 3) := by decide +kernel
theorem dX12_stop_8 : decode cX12_stop 8 = .ok (.aload_n 0, 1) := by decide +kernel
theorem dX12_stop_9 : decode cX12_stop 9 = .ok (.getfield 44, 3) := by decide +kernel
theorem dX12_stop_12 : decode cX12_stop 12 = .ok (.iload_n 2, 1) := by decide +kernel
theorem dX12_stop_13 : decode cX12_stop 13 = .ok (.putfield 133, 3) := by decide +kernel
theorem dX12_stop_16 : decode cX12_stop 16 = .ok (.aload_n 0, 1) := by decide +kernel
theorem dX12_stop_17 : decode cX12_stop 17 = .ok (.getfield 44, 3) := by decide +kernel
theorem dX12_stop_20 : decode cX12_stop 20 = .ok (.areturn, 1) := by decide +kernel
theorem dX12_byteAt_0 : decode cX12_byteAt 0 = .ok (.iload_n 1, 1) := by decide +kernel
theorem dX12_byteAt_1 : decode cX12_byteAt 1 = .ok (.aload_n 0, 1) := by decide +kernel
theorem dX12_byteAt_2 : decode cX12_byteAt 2 = .ok (.getfield 136, 3) := by decide +kernel
theorem dX12_byteAt_5 : decode cX12_byteAt 5 = .ok (.if_icmp .ge 16, 3) := by decide +kernel
theorem dX12_byteAt_8 : decode cX12_byteAt 8 = .ok (.aload_n 0, 1) := by decide +kernel
theorem dX12_byteAt_9 : decode cX12_byteAt 9 = .ok (.getfield 48, 3) := by decide +kernel
theorem dX12_byteAt_12 : decode cX12_byteAt 12 = .ok (.iload_n 1, 1) := by decide +kernel
theorem dX12_byteAt_13 : decode cX12_byteAt 13 = .ok (.baload, 1) := by decide +kernel
theorem dX12_byteAt_14 : decode cX12_byteAt 14 = .ok (.sipush 255, 3) := by decide +kernel
theorem dX12_byteAt_17 : decode cX12_byteAt 17 = .ok (.iand, 1) := by decide +kernel
theorem dX12_byteAt_18 : decode cX12_byteAt 18 = .ok (.goto 4, 3) := by decide +kernel
theorem dX12_byteAt_21 : decode cX12_byteAt 21 = .ok (.iconst (-1), 1) := by decide +kernel
theorem dX12_byteAt_22 : decode cX12_byteAt 22 = .ok (.ireturn, 1) := by decide +kernel
theorem dX12_isLetter_0 : decode cX12_isLetter 0 = .ok (.iload_n 0, 1) := by decide +kernel
theorem dX12_isLetter_1 : decode cX12_isLetter 1 = .ok (.bipush 97, 2) := by decide +kernel
theorem dX12_isLetter_3 : decode cX12_isLetter 3 = .ok (.if_icmp .lt 13, 3) := by decide +kernel
theorem dX12_isLetter_6 : decode cX12_isLetter 6 = .ok (.iload_n 0, 1) := by decide +kernel
theorem dX12_isLetter_7 : decode cX12_isLetter 7 = .ok (.bipush 122, 2) := by decide +kernel
theorem dX12_isLetter_9 : decode cX12_isLetter 9 = .ok (.if_icmp .gt 7, 3) := by decide +kernel
theorem dX12_isLetter_12 : decode cX12_isLetter 12 = .ok (.iconst 1, 1) := by decide +kernel
theorem dX12_isLetter_13 : decode cX12_isLetter 13 = .ok (.goto 4, 3) := by decide +kernel
theorem dX12_isLetter_16 : decode cX12_isLetter 16 = .ok (.iconst 0, 1) := by decide +kernel
theorem dX12_isLetter_17 : decode cX12_isLetter 17 = .ok (.ireturn, 1) := by decide +kernel
theorem dX12_isDigit_0 : decode cX12_isDigit 0 = .ok (.iload_n 0, 1) := by decide +kernel
theorem dX12_isDigit_1 : decode cX12_isDigit 1 = .ok (.bipush 48, 2) := by decide +kernel
theorem dX12_isDigit_3 : decode cX12_isDigit 3 = .ok (.if_icmp .lt 13, 3) := by decide +kernel
theorem dX12_isDigit_6 : decode cX12_isDigit 6 = .ok (.iload_n 0, 1) := by decide +kernel
theorem dX12_isDigit_7 : decode cX12_isDigit 7 = .ok (.bipush 57, 2) := by decide +kernel
theorem dX12_isDigit_9 : decode cX12_isDigit 9 = .ok (.if_icmp .gt 7, 3) := by decide +kernel
theorem dX12_isDigit_12 : decode cX12_isDigit 12 = .ok (.iconst 1, 1) := by decide +kernel
theorem dX12_isDigit_13 : decode cX12_isDigit 13 = .ok (.goto 4, 3) := by decide +kernel
theorem dX12_isDigit_16 : decode cX12_isDigit 16 = .ok (.iconst 0, 1) := by decide +kernel
theorem dX12_isDigit_17 : decode cX12_isDigit 17 = .ok (.ireturn, 1) := by decide +kernel
theorem dX12_wordOf_0 : decode cX12_wordOf 0 = .ok (.lconst 0, 1) := by decide +kernel
theorem dX12_wordOf_1 : decode cX12_wordOf 1 = .ok (.lstore_n 1, 1) := by decide +kernel
theorem dX12_wordOf_2 : decode cX12_wordOf 2 = .ok (.iconst 0, 1) := by decide +kernel
theorem dX12_wordOf_3 : decode cX12_wordOf 3 = .ok (.istore_n 3, 1) := by decide +kernel
theorem dX12_wordOf_4 : decode cX12_wordOf 4 = .ok (.iload_n 3, 1) := by decide +kernel
theorem dX12_wordOf_5 : decode cX12_wordOf 5 = .ok (.aload_n 0, 1) := by decide +kernel
theorem dX12_wordOf_6 : decode cX12_wordOf 6 = .ok (.invokevirtual 139, 3) := by decide +kernel
theorem dX12_wordOf_9 : decode cX12_wordOf 9 = .ok (.if_icmp .ge 27, 3) := by decide +kernel
theorem dX12_wordOf_12 : decode cX12_wordOf 12 = .ok (.ldc2_w 145, 3) := by decide +kernel
theorem dX12_wordOf_15 : decode cX12_wordOf 15 = .ok (.lload_n 1, 1) := by decide +kernel
theorem dX12_wordOf_16 : decode cX12_wordOf 16 = .ok (.lmul, 1) := by decide +kernel
theorem dX12_wordOf_17 : decode cX12_wordOf 17 = .ok (.aload_n 0, 1) := by decide +kernel
theorem dX12_wordOf_18 : decode cX12_wordOf 18 = .ok (.iload_n 3, 1) := by decide +kernel
theorem dX12_wordOf_19 : decode cX12_wordOf 19 = .ok (.invokevirtual 147, 3) := by decide +kernel
theorem dX12_wordOf_22 : decode cX12_wordOf 22 = .ok (.bipush 97, 2) := by decide +kernel
theorem dX12_wordOf_24 : decode cX12_wordOf 24 = .ok (.isub, 1) := by decide +kernel
theorem dX12_wordOf_25 : decode cX12_wordOf 25 = .ok (.iconst 1, 1) := by decide +kernel
theorem dX12_wordOf_26 : decode cX12_wordOf 26 = .ok (.iadd, 1) := by decide +kernel
theorem dX12_wordOf_27 : decode cX12_wordOf 27 = .ok (.i2l, 1) := by decide +kernel
theorem dX12_wordOf_28 : decode cX12_wordOf 28 = .ok (.ladd, 1) := by decide +kernel
theorem dX12_wordOf_29 : decode cX12_wordOf 29 = .ok (.lstore_n 1, 1) := by decide +kernel
theorem dX12_wordOf_30 : decode cX12_wordOf 30 = .ok (.iinc 3 1, 3) := by decide +kernel
theorem dX12_wordOf_33 : decode cX12_wordOf 33 = .ok (.goto (-29), 3) := by decide +kernel
theorem dX12_wordOf_36 : decode cX12_wordOf 36 = .ok (.lload_n 1, 1) := by decide +kernel
theorem dX12_wordOf_37 : decode cX12_wordOf 37 = .ok (.lreturn, 1) := by decide +kernel
theorem dX12_next_0 : decode cX12_next 0 = .ok (.aload_n 0, 1) := by decide +kernel
theorem dX12_next_1 : decode cX12_next 1 = .ok (.aload_n 0, 1) := by decide +kernel
theorem dX12_next_2 : decode cX12_next 2 = .ok (.getfield 151, 3) := by decide +kernel
theorem dX12_next_5 : decode cX12_next 5 = .ok (.invokevirtual 154, 3) := by decide +kernel
theorem dX12_next_8 : decode cX12_next 8 = .ok (.bipush 32, 2) := by decide +kernel
theorem dX12_next_10 : decode cX12_next 10 = .ok (.if_icmp .eq 16, 3) := by decide +kernel
theorem dX12_next_13 : decode cX12_next 13 = .ok (.aload_n 0, 1) := by decide +kernel
theorem dX12_next_14 : decode cX12_next 14 = .ok (.aload_n 0, 1) := by decide +kernel
theorem dX12_next_15 : decode cX12_next 15 = .ok (.getfield 151, 3) := by decide +kernel
theorem dX12_next_18 : decode cX12_next 18 = .ok (.invokevirtual 154, 3) := by decide +kernel
theorem dX12_next_21 : decode cX12_next 21 = .ok (.bipush 10, 2) := by decide +kernel
theorem dX12_next_23 : decode cX12_next 23 = .ok (.if_icmp .ne 16, 3) := by decide +kernel
theorem dX12_next_26 : decode cX12_next 26 = .ok (.aload_n 0, 1) := by decide +kernel
theorem dX12_next_27 : decode cX12_next 27 = .ok (.dup, 1) := by decide +kernel
theorem dX12_next_28 : decode cX12_next 28 = .ok (.getfield 151, 3) := by decide +kernel
theorem dX12_next_31 : decode cX12_next 31 = .ok (.iconst 1, 1) := by decide +kernel
theorem dX12_next_32 : decode cX12_next 32 = .ok (.iadd, 1) := by decide +kernel
theorem dX12_next_33 : decode cX12_next 33 = .ok (.putfield 151, 3) := by decide +kernel
theorem dX12_next_36 : decode cX12_next 36 = .ok (.goto (-36), 3) := by decide +kernel
theorem dX12_next_39 : decode cX12_next 39 = .ok (.aload_n 0, 1) := by decide +kernel
theorem dX12_next_40 : decode cX12_next 40 = .ok (.aload_n 0, 1) := by decide +kernel
theorem dX12_next_41 : decode cX12_next 41 = .ok (.getfield 151, 3) := by decide +kernel
theorem dX12_next_44 : decode cX12_next 44 = .ok (.putfield 158, 3) := by decide +kernel
theorem dX12_next_47 : decode cX12_next 47 = .ok (.aload_n 0, 1) := by decide +kernel
theorem dX12_next_48 : decode cX12_next 48 = .ok (.iconst 0, 1) := by decide +kernel
theorem dX12_next_49 : decode cX12_next 49 = .ok (.putfield 159, 3) := by decide +kernel
theorem dX12_next_52 : decode cX12_next 52 = .ok (.aload_n 0, 1) := by decide +kernel
theorem dX12_next_53 : decode cX12_next 53 = .ok (.iconst 0, 1) := by decide +kernel
theorem dX12_next_54 : decode cX12_next 54 = .ok (.putfield 162, 3) := by decide +kernel
theorem dX12_next_57 : decode cX12_next 57 = .ok (.aload_n 0, 1) := by decide +kernel
theorem dX12_next_58 : decode cX12_next 58 = .ok (.aload_n 0, 1) := by decide +kernel
theorem dX12_next_59 : decode cX12_next 59 = .ok (.getfield 151, 3) := by decide +kernel
theorem dX12_next_62 : decode cX12_next 62 = .ok (.invokevirtual 154, 3) := by decide +kernel
theorem dX12_next_65 : decode cX12_next 65 = .ok (.istore_n 1, 1) := by decide +kernel
theorem dX12_next_66 : decode cX12_next 66 = .ok (.iconst 0, 1) := by decide +kernel
theorem dX12_next_67 : decode cX12_next 67 = .ok (.istore_n 2, 1) := by decide +kernel
theorem dX12_next_68 : decode cX12_next 68 = .ok (.iload_n 1, 1) := by decide +kernel
theorem dX12_next_69 : decode cX12_next 69 = .ok (.iconst (-1), 1) := by decide +kernel
theorem dX12_next_70 : decode cX12_next 70 = .ok (.if_icmp .ne 11, 3) := by decide +kernel
theorem dX12_next_73 : decode cX12_next 73 = .ok (.aload_n 0, 1) := by decide +kernel
theorem dX12_next_74 : decode cX12_next 74 = .ok (.iconst 1, 1) := by decide +kernel
theorem dX12_next_75 : decode cX12_next 75 = .ok (.putfield 159, 3) := by decide +kernel
theorem dX12_next_78 : decode cX12_next 78 = .ok (.goto 237, 3) := by decide +kernel
theorem dX12_next_81 : decode cX12_next 81 = .ok (.iload_n 1, 1) := by decide +kernel
theorem dX12_next_82 : decode cX12_next 82 = .ok (.invokestatic 165, 3) := by decide +kernel
theorem dX12_next_85 : decode cX12_next 85 = .ok (.ifCond .eq 85, 3) := by decide +kernel
theorem dX12_next_88 : decode cX12_next 88 = .ok (.aload_n 0, 1) := by decide +kernel
theorem dX12_next_89 : decode cX12_next 89 = .ok (.lconst 0, 1) := by decide +kernel
theorem dX12_next_90 : decode cX12_next 90 = .ok (.putfield 169, 3) := by decide +kernel
theorem dX12_next_93 : decode cX12_next 93 = .ok (.aload_n 0, 1) := by decide +kernel
theorem dX12_next_94 : decode cX12_next 94 = .ok (.aload_n 0, 1) := by decide +kernel
theorem dX12_next_95 : decode cX12_next 95 = .ok (.getfield 151, 3) := by decide +kernel
theorem dX12_next_98 : decode cX12_next 98 = .ok (.invokevirtual 154, 3) := by decide +kernel
theorem dX12_next_101 : decode cX12_next 101 = .ok (.invokestatic 165, 3) := by decide +kernel
theorem dX12_next_104 : decode cX12_next 104 = .ok (.ifCond .eq 52, 3) := by decide +kernel
theorem dX12_next_107 : decode cX12_next 107 = .ok (.iload_n 2, 1) := by decide +kernel
theorem dX12_next_108 : decode cX12_next 108 = .ok (.bipush 8, 2) := by decide +kernel
theorem dX12_next_110 : decode cX12_next 110 = .ok (.if_icmp .ge 30, 3) := by decide +kernel
theorem dX12_next_113 : decode cX12_next 113 = .ok (.aload_n 0, 1) := by decide +kernel
theorem dX12_next_114 : decode cX12_next 114 = .ok (.ldc2_w 145, 3) := by decide +kernel
theorem dX12_next_117 : decode cX12_next 117 = .ok (.aload_n 0, 1) := by decide +kernel
theorem dX12_next_118 : decode cX12_next 118 = .ok (.getfield 169, 3) := by decide +kernel
theorem dX12_next_121 : decode cX12_next 121 = .ok (.lmul, 1) := by decide +kernel
theorem dX12_next_122 : decode cX12_next 122 = .ok (.aload_n 0, 1) := by decide +kernel
theorem dX12_next_123 : decode cX12_next 123 = .ok (.aload_n 0, 1) := by decide +kernel
theorem dX12_next_124 : decode cX12_next 124 = .ok (.getfield 151, 3) := by decide +kernel
theorem dX12_next_127 : decode cX12_next 127 = .ok (.invokevirtual 154, 3) := by decide +kernel
theorem dX12_next_130 : decode cX12_next 130 = .ok (.bipush 97, 2) := by decide +kernel
theorem dX12_next_132 : decode cX12_next 132 = .ok (.isub, 1) := by decide +kernel
theorem dX12_next_133 : decode cX12_next 133 = .ok (.iconst 1, 1) := by decide +kernel
theorem dX12_next_134 : decode cX12_next 134 = .ok (.iadd, 1) := by decide +kernel
theorem dX12_next_135 : decode cX12_next 135 = .ok (.i2l, 1) := by decide +kernel
theorem dX12_next_136 : decode cX12_next 136 = .ok (.ladd, 1) := by decide +kernel
theorem dX12_next_137 : decode cX12_next 137 = .ok (.putfield 169, 3) := by decide +kernel
theorem dX12_next_140 : decode cX12_next 140 = .ok (.iinc 2 1, 3) := by decide +kernel
theorem dX12_next_143 : decode cX12_next 143 = .ok (.aload_n 0, 1) := by decide +kernel
theorem dX12_next_144 : decode cX12_next 144 = .ok (.dup, 1) := by decide +kernel
theorem dX12_next_145 : decode cX12_next 145 = .ok (.getfield 151, 3) := by decide +kernel
theorem dX12_next_148 : decode cX12_next 148 = .ok (.iconst 1, 1) := by decide +kernel
theorem dX12_next_149 : decode cX12_next 149 = .ok (.iadd, 1) := by decide +kernel
theorem dX12_next_150 : decode cX12_next 150 = .ok (.putfield 151, 3) := by decide +kernel
theorem dX12_next_153 : decode cX12_next 153 = .ok (.goto (-60), 3) := by decide +kernel
theorem dX12_next_156 : decode cX12_next 156 = .ok (.iload_n 2, 1) := by decide +kernel
theorem dX12_next_157 : decode cX12_next 157 = .ok (.bipush 9, 2) := by decide +kernel
theorem dX12_next_159 : decode cX12_next 159 = .ok (.if_icmp .ge 156, 3) := by decide +kernel
theorem dX12_next_162 : decode cX12_next 162 = .ok (.aload_n 0, 1) := by decide +kernel
theorem dX12_next_163 : decode cX12_next 163 = .ok (.iconst 2, 1) := by decide +kernel
theorem dX12_next_164 : decode cX12_next 164 = .ok (.putfield 159, 3) := by decide +kernel
theorem dX12_next_167 : decode cX12_next 167 = .ok (.goto 148, 3) := by decide +kernel
theorem dX12_next_170 : decode cX12_next 170 = .ok (.iload_n 1, 1) := by decide +kernel
theorem dX12_next_171 : decode cX12_next 171 = .ok (.invokestatic 173, 3) := by decide +kernel
theorem dX12_next_174 : decode cX12_next 174 = .ok (.ifCond .eq 79, 3) := by decide +kernel
theorem dX12_next_177 : decode cX12_next 177 = .ok (.aload_n 0, 1) := by decide +kernel
theorem dX12_next_178 : decode cX12_next 178 = .ok (.iconst 0, 1) := by decide +kernel
theorem dX12_next_179 : decode cX12_next 179 = .ok (.putfield 176, 3) := by decide +kernel
theorem dX12_next_182 : decode cX12_next 182 = .ok (.aload_n 0, 1) := by decide +kernel
theorem dX12_next_183 : decode cX12_next 183 = .ok (.aload_n 0, 1) := by decide +kernel
theorem dX12_next_184 : decode cX12_next 184 = .ok (.getfield 151, 3) := by decide +kernel
theorem dX12_next_187 : decode cX12_next 187 = .ok (.invokevirtual 154, 3) := by decide +kernel
theorem dX12_next_190 : decode cX12_next 190 = .ok (.invokestatic 173, 3) := by decide +kernel
theorem dX12_next_193 : decode cX12_next 193 = .ok (.ifCond .eq 47, 3) := by decide +kernel
theorem dX12_next_196 : decode cX12_next 196 = .ok (.iload_n 2, 1) := by decide +kernel
theorem dX12_next_197 : decode cX12_next 197 = .ok (.iconst 2, 1) := by decide +kernel
theorem dX12_next_198 : decode cX12_next 198 = .ok (.if_icmp .ge 26, 3) := by decide +kernel
theorem dX12_next_201 : decode cX12_next 201 = .ok (.aload_n 0, 1) := by decide +kernel
theorem dX12_next_202 : decode cX12_next 202 = .ok (.bipush 10, 2) := by decide +kernel
theorem dX12_next_204 : decode cX12_next 204 = .ok (.aload_n 0, 1) := by decide +kernel
theorem dX12_next_205 : decode cX12_next 205 = .ok (.getfield 176, 3) := by decide +kernel
theorem dX12_next_208 : decode cX12_next 208 = .ok (.imul, 1) := by decide +kernel
theorem dX12_next_209 : decode cX12_next 209 = .ok (.aload_n 0, 1) := by decide +kernel
theorem dX12_next_210 : decode cX12_next 210 = .ok (.aload_n 0, 1) := by decide +kernel
theorem dX12_next_211 : decode cX12_next 211 = .ok (.getfield 151, 3) := by decide +kernel
theorem dX12_next_214 : decode cX12_next 214 = .ok (.invokevirtual 154, 3) := by decide +kernel
theorem dX12_next_217 : decode cX12_next 217 = .ok (.iadd, 1) := by decide +kernel
theorem dX12_next_218 : decode cX12_next 218 = .ok (.bipush 48, 2) := by decide +kernel
theorem dX12_next_220 : decode cX12_next 220 = .ok (.isub, 1) := by decide +kernel
theorem dX12_next_221 : decode cX12_next 221 = .ok (.putfield 176, 3) := by decide +kernel
theorem dX12_next_224 : decode cX12_next 224 = .ok (.iinc 2 1, 3) := by decide +kernel
theorem dX12_next_227 : decode cX12_next 227 = .ok (.aload_n 0, 1) := by decide +kernel
theorem dX12_next_228 : decode cX12_next 228 = .ok (.dup, 1) := by decide +kernel
theorem dX12_next_229 : decode cX12_next 229 = .ok (.getfield 151, 3) := by decide +kernel
theorem dX12_next_232 : decode cX12_next 232 = .ok (.iconst 1, 1) := by decide +kernel
theorem dX12_next_233 : decode cX12_next 233 = .ok (.iadd, 1) := by decide +kernel
theorem dX12_next_234 : decode cX12_next 234 = .ok (.putfield 151, 3) := by decide +kernel
theorem dX12_next_237 : decode cX12_next 237 = .ok (.goto (-55), 3) := by decide +kernel
theorem dX12_next_240 : decode cX12_next 240 = .ok (.iload_n 2, 1) := by decide +kernel
theorem dX12_next_241 : decode cX12_next 241 = .ok (.iconst 3, 1) := by decide +kernel
theorem dX12_next_242 : decode cX12_next 242 = .ok (.if_icmp .ge 73, 3) := by decide +kernel
theorem dX12_next_245 : decode cX12_next 245 = .ok (.aload_n 0, 1) := by decide +kernel
theorem dX12_next_246 : decode cX12_next 246 = .ok (.iconst 3, 1) := by decide +kernel
theorem dX12_next_247 : decode cX12_next 247 = .ok (.putfield 159, 3) := by decide +kernel
theorem dX12_next_250 : decode cX12_next 250 = .ok (.goto 65, 3) := by decide +kernel
theorem dX12_next_253 : decode cX12_next 253 = .ok (.iload_n 1, 1) := by decide +kernel
theorem dX12_next_254 : decode cX12_next 254 = .ok (.bipush 123, 2) := by decide +kernel
theorem dX12_next_256 : decode cX12_next 256 = .ok (.if_icmp .eq 39, 3) := by decide +kernel
theorem dX12_next_259 : decode cX12_next 259 = .ok (.iload_n 1, 1) := by decide +kernel
theorem dX12_next_260 : decode cX12_next 260 = .ok (.bipush 125, 2) := by decide +kernel
theorem dX12_next_262 : decode cX12_next 262 = .ok (.if_icmp .eq 33, 3) := by decide +kernel
theorem dX12_next_265 : decode cX12_next 265 = .ok (.iload_n 1, 1) := by decide +kernel
theorem dX12_next_266 : decode cX12_next 266 = .ok (.bipush 59, 2) := by decide +kernel
theorem dX12_next_268 : decode cX12_next 268 = .ok (.if_icmp .eq 27, 3) := by decide +kernel
theorem dX12_next_271 : decode cX12_next 271 = .ok (.iload_n 1, 1) := by decide +kernel
theorem dX12_next_272 : decode cX12_next 272 = .ok (.bipush 44, 2) := by decide +kernel
theorem dX12_next_274 : decode cX12_next 274 = .ok (.if_icmp .eq 21, 3) := by decide +kernel
theorem dX12_next_277 : decode cX12_next 277 = .ok (.iload_n 1, 1) := by decide +kernel
theorem dX12_next_278 : decode cX12_next 278 = .ok (.bipush 61, 2) := by decide +kernel
theorem dX12_next_280 : decode cX12_next 280 = .ok (.if_icmp .eq 15, 3) := by decide +kernel
theorem dX12_next_283 : decode cX12_next 283 = .ok (.iload_n 1, 1) := by decide +kernel
theorem dX12_next_284 : decode cX12_next 284 = .ok (.bipush 60, 2) := by decide +kernel
theorem dX12_next_286 : decode cX12_next 286 = .ok (.if_icmp .eq 9, 3) := by decide +kernel
theorem dX12_next_289 : decode cX12_next 289 = .ok (.iload_n 1, 1) := by decide +kernel
theorem dX12_next_290 : decode cX12_next 290 = .ok (.bipush 62, 2) := by decide +kernel
theorem dX12_next_292 : decode cX12_next 292 = .ok (.if_icmp .ne 23, 3) := by decide +kernel
theorem dX12_next_295 : decode cX12_next 295 = .ok (.aload_n 0, 1) := by decide +kernel
theorem dX12_next_296 : decode cX12_next 296 = .ok (.iconst 4, 1) := by decide +kernel
theorem dX12_next_297 : decode cX12_next 297 = .ok (.putfield 159, 3) := by decide +kernel
theorem dX12_next_300 : decode cX12_next 300 = .ok (.aload_n 0, 1) := by decide +kernel
theorem dX12_next_301 : decode cX12_next 301 = .ok (.iload_n 1, 1) := by decide +kernel
theorem dX12_next_302 : decode cX12_next 302 = .ok (.putfield 162, 3) := by decide +kernel
theorem dX12_next_305 : decode cX12_next 305 = .ok (.aload_n 0, 1) := by decide +kernel
theorem dX12_next_306 : decode cX12_next 306 = .ok (.dup, 1) := by decide +kernel
theorem dX12_next_307 : decode cX12_next 307 = .ok (.getfield 151, 3) := by decide +kernel
theorem dX12_next_310 : decode cX12_next 310 = .ok (.iconst 1, 1) := by decide +kernel
theorem dX12_next_311 : decode cX12_next 311 = .ok (.iadd, 1) := by decide +kernel
theorem dX12_next_312 : decode cX12_next 312 = .ok (.putfield 151, 3) := by decide +kernel
theorem dX12_next_315 : decode cX12_next 315 = .ok (.return_, 1) := by decide +kernel
theorem dX12_isWord_0 : decode cX12_isWord 0 = .ok (.aload_n 0, 1) := by decide +kernel
theorem dX12_isWord_1 : decode cX12_isWord 1 = .ok (.getfield 159, 3) := by decide +kernel
theorem dX12_isWord_4 : decode cX12_isWord 4 = .ok (.iconst 2, 1) := by decide +kernel
theorem dX12_isWord_5 : decode cX12_isWord 5 = .ok (.if_icmp .ne 19, 3) := by decide +kernel
theorem dX12_isWord_8 : decode cX12_isWord 8 = .ok (.aload_n 0, 1) := by decide +kernel
theorem dX12_isWord_9 : decode cX12_isWord 9 = .ok (.getfield 169, 3) := by decide +kernel
theorem dX12_isWord_12 : decode cX12_isWord 12 = .ok (.aload_n 1, 1) := by decide +kernel
theorem dX12_isWord_13 : decode cX12_isWord 13 = .ok (.invokestatic 179, 3) := by decide +kernel
theorem dX12_isWord_16 : decode cX12_isWord 16 = .ok (.lcmp, 1) := by decide +kernel
theorem dX12_isWord_17 : decode cX12_isWord 17 = .ok (.ifCond .ne 7, 3) := by decide +kernel
theorem dX12_isWord_20 : decode cX12_isWord 20 = .ok (.iconst 1, 1) := by decide +kernel
theorem dX12_isWord_21 : decode cX12_isWord 21 = .ok (.goto 4, 3) := by decide +kernel
theorem dX12_isWord_24 : decode cX12_isWord 24 = .ok (.iconst 0, 1) := by decide +kernel
theorem dX12_isWord_25 : decode cX12_isWord 25 = .ok (.ireturn, 1) := by decide +kernel
theorem dX12_is_0 : decode cX12_is 0 = .ok (.aload_n 0, 1) := by decide +kernel
theorem dX12_is_1 : decode cX12_is 1 = .ok (.getfield 159, 3) := by decide +kernel
theorem dX12_is_4 : decode cX12_is 4 = .ok (.iconst 4, 1) := by decide +kernel
theorem dX12_is_5 : decode cX12_is 5 = .ok (.if_icmp .ne 15, 3) := by decide +kernel
theorem dX12_is_8 : decode cX12_is 8 = .ok (.aload_n 0, 1) := by decide +kernel
theorem dX12_is_9 : decode cX12_is 9 = .ok (.getfield 162, 3) := by decide +kernel
theorem dX12_is_12 : decode cX12_is 12 = .ok (.iload_n 1, 1) := by decide +kernel
theorem dX12_is_13 : decode cX12_is 13 = .ok (.if_icmp .ne 7, 3) := by decide +kernel
theorem dX12_is_16 : decode cX12_is 16 = .ok (.iconst 1, 1) := by decide +kernel
theorem dX12_is_17 : decode cX12_is 17 = .ok (.goto 4, 3) := by decide +kernel
theorem dX12_is_20 : decode cX12_is 20 = .ok (.iconst 0, 1) := by decide +kernel
theorem dX12_is_21 : decode cX12_is 21 = .ok (.ireturn, 1) := by decide +kernel
theorem dX12_need_0 : decode cX12_need 0 = .ok (.aload_n 0, 1) := by decide +kernel
theorem dX12_need_1 : decode cX12_need 1 = .ok (.iload_n 1, 1) := by decide +kernel
theorem dX12_need_2 : decode cX12_need 2 = .ok (.invokevirtual 183, 3) := by decide +kernel
theorem dX12_need_5 : decode cX12_need 5 = .ok (.ifCond .ne 13, 3) := by decide +kernel
theorem dX12_need_8 : decode cX12_need 8 = .ok (.aload_n 0, 1) := by decide +kernel
theorem dX12_need_9 : decode cX12_need 9 = .ok (.iconst 1, 1) := by decide +kernel
theorem dX12_need_10 : decode cX12_need 10 = .ok (.aload_n 0, 1) := by decide +kernel
theorem dX12_need_11 : decode cX12_need 11 = .ok (.getfield 158, 3) := by decide +kernel
theorem dX12_need_14 : decode cX12_need 14 = .ok (.invokevirtual 185, 3) := by decide +kernel
theorem dX12_need_17 : decode cX12_need 17 = .ok (.athrow, 1) := by decide +kernel
theorem dX12_need_18 : decode cX12_need 18 = .ok (.aload_n 0, 1) := by decide +kernel
theorem dX12_need_19 : decode cX12_need 19 = .ok (.invokevirtual 188, 3) := by decide +kernel
theorem dX12_need_22 : decode cX12_need 22 = .ok (.return_, 1) := by decide +kernel
theorem dX12_needWord_0 : decode cX12_needWord 0 = .ok (.aload_n 0, 1) := by decide +kernel
theorem dX12_needWord_1 : decode cX12_needWord 1 = .ok (.aload_n 1, 1) := by decide +kernel
theorem dX12_needWord_2 : decode cX12_needWord 2 = .ok (.invokevirtual 191, 3) := by decide +kernel
theorem dX12_needWord_5 : decode cX12_needWord 5 = .ok (.ifCond .ne 13, 3) := by decide +kernel
theorem dX12_needWord_8 : decode cX12_needWord 8 = .ok (.aload_n 0, 1) := by decide +kernel
theorem dX12_needWord_9 : decode cX12_needWord 9 = .ok (.iconst 1, 1) := by decide +kernel
theorem dX12_needWord_10 : decode cX12_needWord 10 = .ok (.aload_n 0, 1) := by decide +kernel
theorem dX12_needWord_11 : decode cX12_needWord 11 = .ok (.getfield 158, 3) := by decide +kernel
theorem dX12_needWord_14 : decode cX12_needWord 14 = .ok (.invokevirtual 185, 3) := by decide +kernel
theorem dX12_needWord_17 : decode cX12_needWord 17 = .ok (.athrow, 1) := by decide +kernel
theorem dX12_needWord_18 : decode cX12_needWord 18 = .ok (.aload_n 0, 1) := by decide +kernel
theorem dX12_needWord_19 : decode cX12_needWord 19 = .ok (.invokevirtual 188, 3) := by decide +kernel
theorem dX12_needWord_22 : decode cX12_needWord 22 = .ok (.return_, 1) := by decide +kernel
theorem dX12_needNumber_0 : decode cX12_needNumber 0 = .ok (.aload_n 0, 1) := by decide +kernel
theorem dX12_needNumber_1 : decode cX12_needNumber 1 = .ok (.getfield 159, 3) := by decide +kernel
theorem dX12_needNumber_4 : decode cX12_needNumber 4 = .ok (.iconst 3, 1) := by decide +kernel
theorem dX12_needNumber_5 : decode cX12_needNumber 5 = .ok (.if_icmp .eq 13, 3) := by decide +kernel
theorem dX12_needNumber_8 : decode cX12_needNumber 8 = .ok (.aload_n 0, 1) := by decide +kernel
theorem dX12_needNumber_9 : decode cX12_needNumber 9 = .ok (.iconst 1, 1) := by decide +kernel
theorem dX12_needNumber_10 : decode cX12_needNumber 10 = .ok (.aload_n 0, 1) := by decide +kernel
theorem dX12_needNumber_11 : decode cX12_needNumber 11 = .ok (.getfield 158, 3) := by decide +kernel
theorem dX12_needNumber_14 : decode cX12_needNumber 14 = .ok (.invokevirtual 185, 3) := by decide +kernel
theorem dX12_needNumber_17 : decode cX12_needNumber 17 = .ok (.athrow, 1) := by decide +kernel
theorem dX12_needNumber_18 : decode cX12_needNumber 18 = .ok (.aload_n 0, 1) := by decide +kernel
theorem dX12_needNumber_19 : decode cX12_needNumber 19 = .ok (.getfield 176, 3) := by decide +kernel
theorem dX12_needNumber_22 : decode cX12_needNumber 22 = .ok (.iload_n 1, 1) := by decide +kernel
theorem dX12_needNumber_23 : decode cX12_needNumber 23 = .ok (.if_icmp .lt 11, 3) := by decide +kernel
theorem dX12_needNumber_26 : decode cX12_needNumber 26 = .ok (.aload_n 0, 1) := by decide +kernel
theorem dX12_needNumber_27 : decode cX12_needNumber 27 = .ok (.getfield 176, 3) := by decide +kernel
theorem dX12_needNumber_30 : decode cX12_needNumber 30 = .ok (.iload_n 2, 1) := by decide +kernel
theorem dX12_needNumber_31 : decode cX12_needNumber 31 = .ok (.if_icmp .le 13, 3) := by decide +kernel
theorem dX12_needNumber_34 : decode cX12_needNumber 34 = .ok (.aload_n 0, 1) := by decide +kernel
theorem dX12_needNumber_35 : decode cX12_needNumber 35 = .ok (.iconst 4, 1) := by decide +kernel
theorem dX12_needNumber_36 : decode cX12_needNumber 36 = .ok (.aload_n 0, 1) := by decide +kernel
theorem dX12_needNumber_37 : decode cX12_needNumber 37 = .ok (.getfield 158, 3) := by decide +kernel
theorem dX12_needNumber_40 : decode cX12_needNumber 40 = .ok (.invokevirtual 185, 3) := by decide +kernel
theorem dX12_needNumber_43 : decode cX12_needNumber 43 = .ok (.athrow, 1) := by decide +kernel
theorem dX12_needNumber_44 : decode cX12_needNumber 44 = .ok (.aload_n 0, 1) := by decide +kernel
theorem dX12_needNumber_45 : decode cX12_needNumber 45 = .ok (.getfield 176, 3) := by decide +kernel
theorem dX12_needNumber_48 : decode cX12_needNumber 48 = .ok (.istore_n 3, 1) := by decide +kernel
theorem dX12_needNumber_49 : decode cX12_needNumber 49 = .ok (.aload_n 0, 1) := by decide +kernel
theorem dX12_needNumber_50 : decode cX12_needNumber 50 = .ok (.invokevirtual 188, 3) := by decide +kernel
theorem dX12_needNumber_53 : decode cX12_needNumber 53 = .ok (.iload_n 3, 1) := by decide +kernel
theorem dX12_needNumber_54 : decode cX12_needNumber 54 = .ok (.ireturn, 1) := by decide +kernel
theorem dX12_find_0 : decode cX12_find 0 = .ok (.iload_n 1, 1) := by decide +kernel
theorem dX12_find_1 : decode cX12_find 1 = .ok (.istore 5, 2) := by decide +kernel
theorem dX12_find_3 : decode cX12_find 3 = .ok (.iload 5, 2) := by decide +kernel
theorem dX12_find_5 : decode cX12_find 5 = .ok (.iload_n 2, 1) := by decide +kernel
theorem dX12_find_6 : decode cX12_find 6 = .ok (.if_icmp .ge 18, 3) := by decide +kernel
theorem dX12_find_9 : decode cX12_find 9 = .ok (.aload_n 0, 1) := by decide +kernel
theorem dX12_find_10 : decode cX12_find 10 = .ok (.iload 5, 2) := by decide +kernel
theorem dX12_find_12 : decode cX12_find 12 = .ok (.laload, 1) := by decide +kernel
theorem dX12_find_13 : decode cX12_find 13 = .ok (.lload_n 3, 1) := by decide +kernel
theorem dX12_find_14 : decode cX12_find 14 = .ok (.lcmp, 1) := by decide +kernel
theorem dX12_find_15 : decode cX12_find 15 = .ok (.ifCond .eq 9, 3) := by decide +kernel
theorem dX12_find_18 : decode cX12_find 18 = .ok (.iinc 5 1, 3) := by decide +kernel
theorem dX12_find_21 : decode cX12_find 21 = .ok (.goto (-18), 3) := by decide +kernel
theorem dX12_find_24 : decode cX12_find 24 = .ok (.iload 5, 2) := by decide +kernel
theorem dX12_find_26 : decode cX12_find 26 = .ok (.iload_n 2, 1) := by decide +kernel
theorem dX12_find_27 : decode cX12_find 27 = .ok (.if_icmp .ge 8, 3) := by decide +kernel
theorem dX12_find_30 : decode cX12_find 30 = .ok (.iload 5, 2) := by decide +kernel
theorem dX12_find_32 : decode cX12_find 32 = .ok (.goto 4, 3) := by decide +kernel
theorem dX12_find_35 : decode cX12_find 35 = .ok (.iconst (-1), 1) := by decide +kernel
theorem dX12_find_36 : decode cX12_find 36 = .ok (.ireturn, 1) := by decide +kernel
theorem dX12_varHere_0 : decode cX12_varHere 0 = .ok (.aload_n 0, 1) := by decide +kernel
theorem dX12_varHere_1 : decode cX12_varHere 1 = .ok (.getfield 159, 3) := by decide +kernel
theorem dX12_varHere_4 : decode cX12_varHere 4 = .ok (.iconst 2, 1) := by decide +kernel
theorem dX12_varHere_5 : decode cX12_varHere 5 = .ok (.if_icmp .eq 13, 3) := by decide +kernel
theorem dX12_varHere_8 : decode cX12_varHere 8 = .ok (.aload_n 0, 1) := by decide +kernel
theorem dX12_varHere_9 : decode cX12_varHere 9 = .ok (.iconst 1, 1) := by decide +kernel
theorem dX12_varHere_10 : decode cX12_varHere 10 = .ok (.aload_n 0, 1) := by decide +kernel
theorem dX12_varHere_11 : decode cX12_varHere 11 = .ok (.getfield 158, 3) := by decide +kernel
theorem dX12_varHere_14 : decode cX12_varHere 14 = .ok (.invokevirtual 185, 3) := by decide +kernel
theorem dX12_varHere_17 : decode cX12_varHere 17 = .ok (.athrow, 1) := by decide +kernel
theorem dX12_varHere_18 : decode cX12_varHere 18 = .ok (.aload_n 0, 1) := by decide +kernel
theorem dX12_varHere_19 : decode cX12_varHere 19 = .ok (.getfield 26, 3) := by decide +kernel
theorem dX12_varHere_22 : decode cX12_varHere 22 = .ok (.getfield 195, 3) := by decide +kernel
theorem dX12_varHere_25 : decode cX12_varHere 25 = .ok (.iconst 0, 1) := by decide +kernel
theorem dX12_varHere_26 : decode cX12_varHere 26 = .ok (.aload_n 0, 1) := by decide +kernel
theorem dX12_varHere_27 : decode cX12_varHere 27 = .ok (.getfield 26, 3) := by decide +kernel
theorem dX12_varHere_30 : decode cX12_varHere 30 = .ok (.getfield 198, 3) := by decide +kernel
theorem dX12_varHere_33 : decode cX12_varHere 33 = .ok (.aload_n 0, 1) := by decide +kernel
theorem dX12_varHere_34 : decode cX12_varHere 34 = .ok (.getfield 169, 3) := by decide +kernel
theorem dX12_varHere_37 : decode cX12_varHere 37 = .ok (.invokestatic 201, 3) := by decide +kernel
theorem dX12_varHere_40 : decode cX12_varHere 40 = .ok (.istore_n 1, 1) := by decide +kernel
theorem dX12_varHere_41 : decode cX12_varHere 41 = .ok (.iload_n 1, 1) := by decide +kernel
theorem dX12_varHere_42 : decode cX12_varHere 42 = .ok (.iconst (-1), 1) := by decide +kernel
theorem dX12_varHere_43 : decode cX12_varHere 43 = .ok (.if_icmp .ne 13, 3) := by decide +kernel
theorem dX12_varHere_46 : decode cX12_varHere 46 = .ok (.aload_n 0, 1) := by decide +kernel
theorem dX12_varHere_47 : decode cX12_varHere 47 = .ok (.iconst 2, 1) := by decide +kernel
theorem dX12_varHere_48 : decode cX12_varHere 48 = .ok (.aload_n 0, 1) := by decide +kernel
theorem dX12_varHere_49 : decode cX12_varHere 49 = .ok (.getfield 158, 3) := by decide +kernel
theorem dX12_varHere_52 : decode cX12_varHere 52 = .ok (.invokevirtual 185, 3) := by decide +kernel
theorem dX12_varHere_55 : decode cX12_varHere 55 = .ok (.athrow, 1) := by decide +kernel
theorem dX12_varHere_56 : decode cX12_varHere 56 = .ok (.iload_n 1, 1) := by decide +kernel
theorem dX12_varHere_57 : decode cX12_varHere 57 = .ok (.ireturn, 1) := by decide +kernel
theorem dX12_reads_0 : decode cX12_reads 0 = .ok (.aload_n 0, 1) := by decide +kernel
theorem dX12_reads_1 : decode cX12_reads 1 = .ok (.getfield 26, 3) := by decide +kernel
theorem dX12_reads_4 : decode cX12_reads 4 = .ok (.astore_n 1, 1) := by decide +kernel
theorem dX12_reads_5 : decode cX12_reads 5 = .ok (.aload_n 1, 1) := by decide +kernel
theorem dX12_reads_6 : decode cX12_reads 6 = .ok (.iconst 0, 1) := by decide +kernel
theorem dX12_reads_7 : decode cX12_reads 7 = .ok (.putfield 205, 3) := by decide +kernel
theorem dX12_reads_10 : decode cX12_reads 10 = .ok (.aload_n 1, 1) := by decide +kernel
theorem dX12_reads_11 : decode cX12_reads 11 = .ok (.iconst 0, 1) := by decide +kernel
theorem dX12_reads_12 : decode cX12_reads 12 = .ok (.putfield 208, 3) := by decide +kernel
theorem dX12_reads_15 : decode cX12_reads 15 = .ok (.aload_n 1, 1) := by decide +kernel
theorem dX12_reads_16 : decode cX12_reads 16 = .ok (.iconst 0, 1) := by decide +kernel
theorem dX12_reads_17 : decode cX12_reads 17 = .ok (.putfield 198, 3) := by decide +kernel
theorem dX12_reads_20 : decode cX12_reads 20 = .ok (.aload_n 0, 1) := by decide +kernel
theorem dX12_reads_21 : decode cX12_reads 21 = .ok (.invokevirtual 188, 3) := by decide +kernel
theorem dX12_reads_24 : decode cX12_reads 24 = .ok (.aload_n 0, 1) := by decide +kernel
theorem dX12_reads_25 : decode cX12_reads 25 = .ok (.ldc 211, 2) := by decide +kernel
theorem dX12_reads_27 : decode cX12_reads 27 = .ok (.invokevirtual 191, 3) := by decide +kernel
theorem dX12_reads_30 : decode cX12_reads 30 = .ok (.ifCond .ne 12, 3) := by decide +kernel
theorem dX12_reads_33 : decode cX12_reads 33 = .ok (.aload_n 0, 1) := by decide +kernel
theorem dX12_reads_34 : decode cX12_reads 34 = .ok (.ldc 212, 2) := by decide +kernel
theorem dX12_reads_36 : decode cX12_reads 36 = .ok (.invokevirtual 191, 3) := by decide +kernel
theorem dX12_reads_39 : decode cX12_reads 39 = .ok (.ifCond .eq 143, 3) := by decide +kernel
theorem dX12_reads_42 : decode cX12_reads 42 = .ok (.aload_n 0, 1) := by decide +kernel
theorem dX12_reads_43 : decode cX12_reads 43 = .ok (.ldc 212, 2) := by decide +kernel
theorem dX12_reads_45 : decode cX12_reads 45 = .ok (.invokevirtual 191, 3) := by decide +kernel
theorem dX12_reads_48 : decode cX12_reads 48 = .ok (.istore_n 2, 1) := by decide +kernel
theorem dX12_reads_49 : decode cX12_reads 49 = .ok (.aload_n 1, 1) := by decide +kernel
theorem dX12_reads_50 : decode cX12_reads 50 = .ok (.getfield 198, 3) := by decide +kernel
theorem dX12_reads_53 : decode cX12_reads 53 = .ok (.bipush 6, 2) := by decide +kernel
theorem dX12_reads_55 : decode cX12_reads 55 = .ok (.if_icmp .ne 13, 3) := by decide +kernel
theorem dX12_reads_58 : decode cX12_reads 58 = .ok (.aload_n 0, 1) := by decide +kernel
theorem dX12_reads_59 : decode cX12_reads 59 = .ok (.iconst 5, 1) := by decide +kernel
theorem dX12_reads_60 : decode cX12_reads 60 = .ok (.aload_n 0, 1) := by decide +kernel
theorem dX12_reads_61 : decode cX12_reads 61 = .ok (.getfield 158, 3) := by decide +kernel
theorem dX12_reads_64 : decode cX12_reads 64 = .ok (.invokevirtual 185, 3) := by decide +kernel
theorem dX12_reads_67 : decode cX12_reads 67 = .ok (.athrow, 1) := by decide +kernel
theorem dX12_reads_68 : decode cX12_reads 68 = .ok (.aload_n 0, 1) := by decide +kernel
theorem dX12_reads_69 : decode cX12_reads 69 = .ok (.invokevirtual 188, 3) := by decide +kernel
theorem dX12_reads_72 : decode cX12_reads 72 = .ok (.aload_n 0, 1) := by decide +kernel
theorem dX12_reads_73 : decode cX12_reads 73 = .ok (.getfield 159, 3) := by decide +kernel
theorem dX12_reads_76 : decode cX12_reads 76 = .ok (.iconst 2, 1) := by decide +kernel
theorem dX12_reads_77 : decode cX12_reads 77 = .ok (.if_icmp .eq 13, 3) := by decide +kernel
theorem dX12_reads_80 : decode cX12_reads 80 = .ok (.aload_n 0, 1) := by decide +kernel
theorem dX12_reads_81 : decode cX12_reads 81 = .ok (.iconst 1, 1) := by decide +kernel
theorem dX12_reads_82 : decode cX12_reads 82 = .ok (.aload_n 0, 1) := by decide +kernel
theorem dX12_reads_83 : decode cX12_reads 83 = .ok (.getfield 158, 3) := by decide +kernel
theorem dX12_reads_86 : decode cX12_reads 86 = .ok (.invokevirtual 185, 3) := by decide +kernel
theorem dX12_reads_89 : decode cX12_reads 89 = .ok (.athrow, 1) := by decide +kernel
theorem dX12_reads_90 : decode cX12_reads 90 = .ok (.aload_n 1, 1) := by decide +kernel
theorem dX12_reads_91 : decode cX12_reads 91 = .ok (.getfield 195, 3) := by decide +kernel
theorem dX12_reads_94 : decode cX12_reads 94 = .ok (.iconst 0, 1) := by decide +kernel
theorem dX12_reads_95 : decode cX12_reads 95 = .ok (.aload_n 1, 1) := by decide +kernel
theorem dX12_reads_96 : decode cX12_reads 96 = .ok (.getfield 198, 3) := by decide +kernel
theorem dX12_reads_99 : decode cX12_reads 99 = .ok (.aload_n 0, 1) := by decide +kernel
theorem dX12_reads_100 : decode cX12_reads 100 = .ok (.getfield 169, 3) := by decide +kernel
theorem dX12_reads_103 : decode cX12_reads 103 = .ok (.invokestatic 201, 3) := by decide +kernel
theorem dX12_reads_106 : decode cX12_reads 106 = .ok (.iconst (-1), 1) := by decide +kernel
theorem dX12_reads_107 : decode cX12_reads 107 = .ok (.if_icmp .eq 13, 3) := by decide +kernel
theorem dX12_reads_110 : decode cX12_reads 110 = .ok (.aload_n 0, 1) := by decide +kernel
theorem dX12_reads_111 : decode cX12_reads 111 = .ok (.iconst 3, 1) := by decide +kernel
theorem dX12_reads_112 : decode cX12_reads 112 = .ok (.aload_n 0, 1) := by decide +kernel
theorem dX12_reads_113 : decode cX12_reads 113 = .ok (.getfield 158, 3) := by decide +kernel
theorem dX12_reads_116 : decode cX12_reads 116 = .ok (.invokevirtual 185, 3) := by decide +kernel
theorem dX12_reads_119 : decode cX12_reads 119 = .ok (.athrow, 1) := by decide +kernel
theorem dX12_reads_120 : decode cX12_reads 120 = .ok (.aload_n 1, 1) := by decide +kernel
theorem dX12_reads_121 : decode cX12_reads 121 = .ok (.getfield 195, 3) := by decide +kernel
theorem dX12_reads_124 : decode cX12_reads 124 = .ok (.aload_n 1, 1) := by decide +kernel
theorem dX12_reads_125 : decode cX12_reads 125 = .ok (.getfield 198, 3) := by decide +kernel
theorem dX12_reads_128 : decode cX12_reads 128 = .ok (.aload_n 0, 1) := by decide +kernel
theorem dX12_reads_129 : decode cX12_reads 129 = .ok (.getfield 169, 3) := by decide +kernel
theorem dX12_reads_132 : decode cX12_reads 132 = .ok (.lastore, 1) := by decide +kernel
theorem dX12_reads_133 : decode cX12_reads 133 = .ok (.aload_n 1, 1) := by decide +kernel
theorem dX12_reads_134 : decode cX12_reads 134 = .ok (.getfield 214, 3) := by decide +kernel
theorem dX12_reads_137 : decode cX12_reads 137 = .ok (.aload_n 1, 1) := by decide +kernel
theorem dX12_reads_138 : decode cX12_reads 138 = .ok (.getfield 198, 3) := by decide +kernel
theorem dX12_reads_141 : decode cX12_reads 141 = .ok (.iload_n 2, 1) := by decide +kernel
theorem dX12_reads_142 : decode cX12_reads 142 = .ok (.bastore, 1) := by decide +kernel
theorem dX12_reads_143 : decode cX12_reads 143 = .ok (.aload_n 0, 1) := by decide +kernel
theorem dX12_reads_144 : decode cX12_reads 144 = .ok (.invokevirtual 188, 3) := by decide +kernel
theorem dX12_reads_147 : decode cX12_reads 147 = .ok (.aload_n 1, 1) := by decide +kernel
theorem dX12_reads_148 : decode cX12_reads 148 = .ok (.getfield 216, 3) := by decide +kernel
theorem dX12_reads_151 : decode cX12_reads 151 = .ok (.aload_n 1, 1) := by decide +kernel
theorem dX12_reads_152 : decode cX12_reads 152 = .ok (.getfield 198, 3) := by decide +kernel
theorem dX12_reads_155 : decode cX12_reads 155 = .ok (.aload_n 0, 1) := by decide +kernel
theorem dX12_reads_156 : decode cX12_reads 156 = .ok (.iconst 1, 1) := by decide +kernel
theorem dX12_reads_157 : decode cX12_reads 157 = .ok (.bipush 9, 2) := by decide +kernel
theorem dX12_reads_159 : decode cX12_reads 159 = .ok (.invokevirtual 219, 3) := by decide +kernel
theorem dX12_reads_162 : decode cX12_reads 162 = .ok (.iastore, 1) := by decide +kernel
theorem dX12_reads_163 : decode cX12_reads 163 = .ok (.aload_n 0, 1) := by decide +kernel
theorem dX12_reads_164 : decode cX12_reads 164 = .ok (.bipush 59, 2) := by decide +kernel
theorem dX12_reads_166 : decode cX12_reads 166 = .ok (.invokevirtual 223, 3) := by decide +kernel
theorem dX12_reads_169 : decode cX12_reads 169 = .ok (.aload_n 1, 1) := by decide +kernel
theorem dX12_reads_170 : decode cX12_reads 170 = .ok (.dup, 1) := by decide +kernel
theorem dX12_reads_171 : decode cX12_reads 171 = .ok (.getfield 198, 3) := by decide +kernel
theorem dX12_reads_174 : decode cX12_reads 174 = .ok (.iconst 1, 1) := by decide +kernel
theorem dX12_reads_175 : decode cX12_reads 175 = .ok (.iadd, 1) := by decide +kernel
theorem dX12_reads_176 : decode cX12_reads 176 = .ok (.putfield 198, 3) := by decide +kernel
theorem dX12_reads_179 : decode cX12_reads 179 = .ok (.goto (-155), 3) := by decide +kernel
theorem dX12_reads_182 : decode cX12_reads 182 = .ok (.iconst 1, 1) := by decide +kernel
theorem dX12_reads_183 : decode cX12_reads 183 = .ok (.istore_n 2, 1) := by decide +kernel
theorem dX12_reads_184 : decode cX12_reads 184 = .ok (.iload_n 2, 1) := by decide +kernel
theorem dX12_reads_185 : decode cX12_reads 185 = .ok (.ifCond .eq 157, 3) := by decide +kernel
theorem dX12_reads_188 : decode cX12_reads 188 = .ok (.aload_n 0, 1) := by decide +kernel
theorem dX12_reads_189 : decode cX12_reads 189 = .ok (.ldc 227, 2) := by decide +kernel
theorem dX12_reads_191 : decode cX12_reads 191 = .ok (.invokevirtual 191, 3) := by decide +kernel
theorem dX12_reads_194 : decode cX12_reads 194 = .ok (.ifCond .ne 13, 3) := by decide +kernel
theorem dX12_reads_197 : decode cX12_reads 197 = .ok (.aload_n 0, 1) := by decide +kernel
theorem dX12_reads_198 : decode cX12_reads 198 = .ok (.iconst 1, 1) := by decide +kernel
theorem dX12_reads_199 : decode cX12_reads 199 = .ok (.aload_n 0, 1) := by decide +kernel
theorem dX12_reads_200 : decode cX12_reads 200 = .ok (.getfield 158, 3) := by decide +kernel
theorem dX12_reads_203 : decode cX12_reads 203 = .ok (.invokevirtual 185, 3) := by decide +kernel
theorem dX12_reads_206 : decode cX12_reads 206 = .ok (.athrow, 1) := by decide +kernel
theorem dX12_reads_207 : decode cX12_reads 207 = .ok (.aload_n 1, 1) := by decide +kernel
theorem dX12_reads_208 : decode cX12_reads 208 = .ok (.getfield 205, 3) := by decide +kernel
theorem dX12_reads_211 : decode cX12_reads 211 = .ok (.bipush 8, 2) := by decide +kernel
theorem dX12_reads_213 : decode cX12_reads 213 = .ok (.if_icmp .ne 13, 3) := by decide +kernel
theorem dX12_reads_216 : decode cX12_reads 216 = .ok (.aload_n 0, 1) := by decide +kernel
theorem dX12_reads_217 : decode cX12_reads 217 = .ok (.iconst 5, 1) := by decide +kernel
theorem dX12_reads_218 : decode cX12_reads 218 = .ok (.aload_n 0, 1) := by decide +kernel
theorem dX12_reads_219 : decode cX12_reads 219 = .ok (.getfield 158, 3) := by decide +kernel
theorem dX12_reads_222 : decode cX12_reads 222 = .ok (.invokevirtual 185, 3) := by decide +kernel
theorem dX12_reads_225 : decode cX12_reads 225 = .ok (.athrow, 1) := by decide +kernel
theorem dX12_reads_226 : decode cX12_reads 226 = .ok (.aload_n 0, 1) := by decide +kernel
theorem dX12_reads_227 : decode cX12_reads 227 = .ok (.invokevirtual 188, 3) := by decide +kernel
theorem dX12_reads_230 : decode cX12_reads 230 = .ok (.aload_n 0, 1) := by decide +kernel
theorem dX12_reads_231 : decode cX12_reads 231 = .ok (.getfield 159, 3) := by decide +kernel
theorem dX12_reads_234 : decode cX12_reads 234 = .ok (.iconst 2, 1) := by decide +kernel
theorem dX12_reads_235 : decode cX12_reads 235 = .ok (.if_icmp .eq 13, 3) := by decide +kernel
theorem dX12_reads_238 : decode cX12_reads 238 = .ok (.aload_n 0, 1) := by decide +kernel
theorem dX12_reads_239 : decode cX12_reads 239 = .ok (.iconst 1, 1) := by decide +kernel
theorem dX12_reads_240 : decode cX12_reads 240 = .ok (.aload_n 0, 1) := by decide +kernel
theorem dX12_reads_241 : decode cX12_reads 241 = .ok (.getfield 158, 3) := by decide +kernel
theorem dX12_reads_244 : decode cX12_reads 244 = .ok (.invokevirtual 185, 3) := by decide +kernel
theorem dX12_reads_247 : decode cX12_reads 247 = .ok (.athrow, 1) := by decide +kernel
theorem dX12_reads_248 : decode cX12_reads 248 = .ok (.aload_n 1, 1) := by decide +kernel
theorem dX12_reads_249 : decode cX12_reads 249 = .ok (.getfield 228, 3) := by decide +kernel
theorem dX12_reads_252 : decode cX12_reads 252 = .ok (.iconst 0, 1) := by decide +kernel
theorem dX12_reads_253 : decode cX12_reads 253 = .ok (.aload_n 1, 1) := by decide +kernel
theorem dX12_reads_254 : decode cX12_reads 254 = .ok (.getfield 205, 3) := by decide +kernel
theorem dX12_reads_257 : decode cX12_reads 257 = .ok (.aload_n 0, 1) := by decide +kernel
theorem dX12_reads_258 : decode cX12_reads 258 = .ok (.getfield 169, 3) := by decide +kernel
theorem dX12_reads_261 : decode cX12_reads 261 = .ok (.invokestatic 201, 3) := by decide +kernel
theorem dX12_reads_264 : decode cX12_reads 264 = .ok (.iconst (-1), 1) := by decide +kernel
theorem dX12_reads_265 : decode cX12_reads 265 = .ok (.if_icmp .eq 13, 3) := by decide +kernel
theorem dX12_reads_268 : decode cX12_reads 268 = .ok (.aload_n 0, 1) := by decide +kernel
theorem dX12_reads_269 : decode cX12_reads 269 = .ok (.iconst 3, 1) := by decide +kernel
theorem dX12_reads_270 : decode cX12_reads 270 = .ok (.aload_n 0, 1) := by decide +kernel
theorem dX12_reads_271 : decode cX12_reads 271 = .ok (.getfield 158, 3) := by decide +kernel
theorem dX12_reads_274 : decode cX12_reads 274 = .ok (.invokevirtual 185, 3) := by decide +kernel
theorem dX12_reads_277 : decode cX12_reads 277 = .ok (.athrow, 1) := by decide +kernel
theorem dX12_reads_278 : decode cX12_reads 278 = .ok (.aload_n 1, 1) := by decide +kernel
theorem dX12_reads_279 : decode cX12_reads 279 = .ok (.getfield 228, 3) := by decide +kernel
theorem dX12_reads_282 : decode cX12_reads 282 = .ok (.aload_n 1, 1) := by decide +kernel
theorem dX12_reads_283 : decode cX12_reads 283 = .ok (.getfield 205, 3) := by decide +kernel
theorem dX12_reads_286 : decode cX12_reads 286 = .ok (.aload_n 0, 1) := by decide +kernel
theorem dX12_reads_287 : decode cX12_reads 287 = .ok (.getfield 169, 3) := by decide +kernel
theorem dX12_reads_290 : decode cX12_reads 290 = .ok (.lastore, 1) := by decide +kernel
theorem dX12_reads_291 : decode cX12_reads 291 = .ok (.aload_n 0, 1) := by decide +kernel
theorem dX12_reads_292 : decode cX12_reads 292 = .ok (.invokevirtual 188, 3) := by decide +kernel
theorem dX12_reads_295 : decode cX12_reads 295 = .ok (.aload_n 0, 1) := by decide +kernel
theorem dX12_reads_296 : decode cX12_reads 296 = .ok (.bipush 123, 2) := by decide +kernel
theorem dX12_reads_298 : decode cX12_reads 298 = .ok (.invokevirtual 223, 3) := by decide +kernel
theorem dX12_reads_301 : decode cX12_reads 301 = .ok (.aload_n 0, 1) := by decide +kernel
theorem dX12_reads_302 : decode cX12_reads 302 = .ok (.aload_n 1, 1) := by decide +kernel
theorem dX12_reads_303 : decode cX12_reads 303 = .ok (.getfield 205, 3) := by decide +kernel
theorem dX12_reads_306 : decode cX12_reads 306 = .ok (.invokevirtual 231, 3) := by decide +kernel
theorem dX12_reads_309 : decode cX12_reads 309 = .ok (.aload_n 0, 1) := by decide +kernel
theorem dX12_reads_310 : decode cX12_reads 310 = .ok (.bipush 125, 2) := by decide +kernel
theorem dX12_reads_312 : decode cX12_reads 312 = .ok (.invokevirtual 223, 3) := by decide +kernel
theorem dX12_reads_315 : decode cX12_reads 315 = .ok (.aload_n 1, 1) := by decide +kernel
theorem dX12_reads_316 : decode cX12_reads 316 = .ok (.dup, 1) := by decide +kernel
theorem dX12_reads_317 : decode cX12_reads 317 = .ok (.getfield 205, 3) := by decide +kernel
theorem dX12_reads_320 : decode cX12_reads 320 = .ok (.iconst 1, 1) := by decide +kernel
theorem dX12_reads_321 : decode cX12_reads 321 = .ok (.iadd, 1) := by decide +kernel
theorem dX12_reads_322 : decode cX12_reads 322 = .ok (.putfield 205, 3) := by decide +kernel
theorem dX12_reads_325 : decode cX12_reads 325 = .ok (.aload_n 0, 1) := by decide +kernel
theorem dX12_reads_326 : decode cX12_reads 326 = .ok (.getfield 159, 3) := by decide +kernel
theorem dX12_reads_329 : decode cX12_reads 329 = .ok (.iconst 1, 1) := by decide +kernel
theorem dX12_reads_330 : decode cX12_reads 330 = .ok (.if_icmp .eq 7, 3) := by decide +kernel
theorem dX12_reads_333 : decode cX12_reads 333 = .ok (.iconst 1, 1) := by decide +kernel
theorem dX12_reads_334 : decode cX12_reads 334 = .ok (.goto 4, 3) := by decide +kernel
theorem dX12_reads_337 : decode cX12_reads 337 = .ok (.iconst 0, 1) := by decide +kernel
theorem dX12_reads_338 : decode cX12_reads 338 = .ok (.istore_n 2, 1) := by decide +kernel
theorem dX12_reads_339 : decode cX12_reads 339 = .ok (.goto (-155), 3) := by decide +kernel
theorem dX12_reads_342 : decode cX12_reads 342 = .ok (.iconst (-1), 1) := by decide +kernel
theorem dX12_reads_343 : decode cX12_reads 343 = .ok (.istore_n 3, 1) := by decide +kernel
theorem dX12_reads_344 : decode cX12_reads 344 = .ok (.iconst 0, 1) := by decide +kernel
theorem dX12_reads_345 : decode cX12_reads 345 = .ok (.istore 4, 2) := by decide +kernel
theorem dX12_reads_347 : decode cX12_reads 347 = .ok (.iload 4, 2) := by decide +kernel
theorem dX12_reads_349 : decode cX12_reads 349 = .ok (.bipush 32, 2) := by decide +kernel
theorem dX12_reads_351 : decode cX12_reads 351 = .ok (.if_icmp .ge 159, 3) := by decide +kernel
theorem dX12_reads_354 : decode cX12_reads 354 = .ok (.iload 4, 2) := by decide +kernel
theorem dX12_reads_356 : decode cX12_reads 356 = .ok (.bipush 24, 2) := by decide +kernel
theorem dX12_reads_358 : decode cX12_reads 358 = .ok (.if_icmp .ge 15, 3) := by decide +kernel
theorem dX12_reads_361 : decode cX12_reads 361 = .ok (.iload 4, 2) := by decide +kernel
theorem dX12_reads_363 : decode cX12_reads 363 = .ok (.aload_n 1, 1) := by decide +kernel
theorem dX12_reads_364 : decode cX12_reads 364 = .ok (.getfield 208, 3) := by decide +kernel
theorem dX12_reads_367 : decode cX12_reads 367 = .ok (.if_icmp .lt 34, 3) := by decide +kernel
theorem dX12_reads_370 : decode cX12_reads 370 = .ok (.goto 134, 3) := by decide +kernel
theorem dX12_reads_373 : decode cX12_reads 373 = .ok (.iload 4, 2) := by decide +kernel
theorem dX12_reads_375 : decode cX12_reads 375 = .ok (.bipush 24, 2) := by decide +kernel
theorem dX12_reads_377 : decode cX12_reads 377 = .ok (.isub, 1) := by decide +kernel
theorem dX12_reads_378 : decode cX12_reads 378 = .ok (.aload_n 1, 1) := by decide +kernel
theorem dX12_reads_379 : decode cX12_reads 379 = .ok (.getfield 205, 3) := by decide +kernel
theorem dX12_reads_382 : decode cX12_reads 382 = .ok (.if_icmp .ge 122, 3) := by decide +kernel
theorem dX12_reads_385 : decode cX12_reads 385 = .ok (.aload_n 1, 1) := by decide +kernel
theorem dX12_reads_386 : decode cX12_reads 386 = .ok (.getfield 234, 3) := by decide +kernel
theorem dX12_reads_389 : decode cX12_reads 389 = .ok (.iload 4, 2) := by decide +kernel
theorem dX12_reads_391 : decode cX12_reads 391 = .ok (.bipush 24, 2) := by decide +kernel
theorem dX12_reads_393 : decode cX12_reads 393 = .ok (.isub, 1) := by decide +kernel
theorem dX12_reads_394 : decode cX12_reads 394 = .ok (.iaload, 1) := by decide +kernel
theorem dX12_reads_395 : decode cX12_reads 395 = .ok (.ifCond .ne 6, 3) := by decide +kernel
theorem dX12_reads_398 : decode cX12_reads 398 = .ok (.goto 106, 3) := by decide +kernel
theorem dX12_reads_401 : decode cX12_reads 401 = .ok (.iconst 4, 1) := by decide +kernel
theorem dX12_reads_402 : decode cX12_reads 402 = .ok (.iload 4, 2) := by decide +kernel
theorem dX12_reads_404 : decode cX12_reads 404 = .ok (.imul, 1) := by decide +kernel
theorem dX12_reads_405 : decode cX12_reads 405 = .ok (.istore 5, 2) := by decide +kernel
theorem dX12_reads_407 : decode cX12_reads 407 = .ok (.iload 5, 2) := by decide +kernel
theorem dX12_reads_409 : decode cX12_reads 409 = .ok (.iconst 4, 1) := by decide +kernel
theorem dX12_reads_410 : decode cX12_reads 410 = .ok (.iload 4, 2) := by decide +kernel
theorem dX12_reads_412 : decode cX12_reads 412 = .ok (.imul, 1) := by decide +kernel
theorem dX12_reads_413 : decode cX12_reads 413 = .ok (.aload_n 1, 1) := by decide +kernel
theorem dX12_reads_414 : decode cX12_reads 414 = .ok (.getfield 237, 3) := by decide +kernel
theorem dX12_reads_417 : decode cX12_reads 417 = .ok (.iload 4, 2) := by decide +kernel
theorem dX12_reads_419 : decode cX12_reads 419 = .ok (.iaload, 1) := by decide +kernel
theorem dX12_reads_420 : decode cX12_reads 420 = .ok (.iadd, 1) := by decide +kernel
theorem dX12_reads_421 : decode cX12_reads 421 = .ok (.if_icmp .ge 83, 3) := by decide +kernel
theorem dX12_reads_424 : decode cX12_reads 424 = .ok (.aload_n 1, 1) := by decide +kernel
theorem dX12_reads_425 : decode cX12_reads 425 = .ok (.getfield 240, 3) := by decide +kernel
theorem dX12_reads_428 : decode cX12_reads 428 = .ok (.iload 5, 2) := by decide +kernel
theorem dX12_reads_430 : decode cX12_reads 430 = .ok (.iaload, 1) := by decide +kernel
theorem dX12_reads_431 : decode cX12_reads 431 = .ok (.ifCond .eq 6, 3) := by decide +kernel
theorem dX12_reads_434 : decode cX12_reads 434 = .ok (.goto 64, 3) := by decide +kernel
theorem dX12_reads_437 : decode cX12_reads 437 = .ok (.aload_n 1, 1) := by decide +kernel
theorem dX12_reads_438 : decode cX12_reads 438 = .ok (.getfield 243, 3) := by decide +kernel
theorem dX12_reads_441 : decode cX12_reads 441 = .ok (.iload 5, 2) := by decide +kernel
theorem dX12_reads_443 : decode cX12_reads 443 = .ok (.aload_n 1, 1) := by decide +kernel
theorem dX12_reads_444 : decode cX12_reads 444 = .ok (.getfield 228, 3) := by decide +kernel
theorem dX12_reads_447 : decode cX12_reads 447 = .ok (.iconst 0, 1) := by decide +kernel
theorem dX12_reads_448 : decode cX12_reads 448 = .ok (.aload_n 1, 1) := by decide +kernel
theorem dX12_reads_449 : decode cX12_reads 449 = .ok (.getfield 205, 3) := by decide +kernel
theorem dX12_reads_452 : decode cX12_reads 452 = .ok (.aload_n 1, 1) := by decide +kernel
theorem dX12_reads_453 : decode cX12_reads 453 = .ok (.getfield 246, 3) := by decide +kernel
theorem dX12_reads_456 : decode cX12_reads 456 = .ok (.iload 5, 2) := by decide +kernel
theorem dX12_reads_458 : decode cX12_reads 458 = .ok (.laload, 1) := by decide +kernel
theorem dX12_reads_459 : decode cX12_reads 459 = .ok (.invokestatic 201, 3) := by decide +kernel
theorem dX12_reads_462 : decode cX12_reads 462 = .ok (.iastore, 1) := by decide +kernel
theorem dX12_reads_463 : decode cX12_reads 463 = .ok (.aload_n 1, 1) := by decide +kernel
theorem dX12_reads_464 : decode cX12_reads 464 = .ok (.getfield 243, 3) := by decide +kernel
theorem dX12_reads_467 : decode cX12_reads 467 = .ok (.iload 5, 2) := by decide +kernel
theorem dX12_reads_469 : decode cX12_reads 469 = .ok (.iaload, 1) := by decide +kernel
theorem dX12_reads_470 : decode cX12_reads 470 = .ok (.iconst (-1), 1) := by decide +kernel
theorem dX12_reads_471 : decode cX12_reads 471 = .ok (.if_icmp .ne 27, 3) := by decide +kernel
theorem dX12_reads_474 : decode cX12_reads 474 = .ok (.iload_n 3, 1) := by decide +kernel
theorem dX12_reads_475 : decode cX12_reads 475 = .ok (.iconst (-1), 1) := by decide +kernel
theorem dX12_reads_476 : decode cX12_reads 476 = .ok (.if_icmp .eq 14, 3) := by decide +kernel
theorem dX12_reads_479 : decode cX12_reads 479 = .ok (.aload_n 1, 1) := by decide +kernel
theorem dX12_reads_480 : decode cX12_reads 480 = .ok (.getfield 249, 3) := by decide +kernel
theorem dX12_reads_483 : decode cX12_reads 483 = .ok (.iload 5, 2) := by decide +kernel
theorem dX12_reads_485 : decode cX12_reads 485 = .ok (.iaload, 1) := by decide +kernel
theorem dX12_reads_486 : decode cX12_reads 486 = .ok (.iload_n 3, 1) := by decide +kernel
theorem dX12_reads_487 : decode cX12_reads 487 = .ok (.if_icmp .ge 11, 3) := by decide +kernel
theorem dX12_reads_490 : decode cX12_reads 490 = .ok (.aload_n 1, 1) := by decide +kernel
theorem dX12_reads_491 : decode cX12_reads 491 = .ok (.getfield 249, 3) := by decide +kernel
theorem dX12_reads_494 : decode cX12_reads 494 = .ok (.iload 5, 2) := by decide +kernel
theorem dX12_reads_496 : decode cX12_reads 496 = .ok (.iaload, 1) := by decide +kernel
theorem dX12_reads_497 : decode cX12_reads 497 = .ok (.istore_n 3, 1) := by decide +kernel
theorem dX12_reads_498 : decode cX12_reads 498 = .ok (.iinc 5 1, 3) := by decide +kernel
theorem dX12_reads_501 : decode cX12_reads 501 = .ok (.goto (-94), 3) := by decide +kernel
theorem dX12_reads_504 : decode cX12_reads 504 = .ok (.iinc 4 1, 3) := by decide +kernel
theorem dX12_reads_507 : decode cX12_reads 507 = .ok (.goto (-160), 3) := by decide +kernel
theorem dX12_reads_510 : decode cX12_reads 510 = .ok (.iload_n 3, 1) := by decide +kernel
theorem dX12_reads_511 : decode cX12_reads 511 = .ok (.iconst (-1), 1) := by decide +kernel
theorem dX12_reads_512 : decode cX12_reads 512 = .ok (.if_icmp .eq 10, 3) := by decide +kernel
theorem dX12_reads_515 : decode cX12_reads 515 = .ok (.aload_n 0, 1) := by decide +kernel
theorem dX12_reads_516 : decode cX12_reads 516 = .ok (.iconst 2, 1) := by decide +kernel
theorem dX12_reads_517 : decode cX12_reads 517 = .ok (.iload_n 3, 1) := by decide +kernel
theorem dX12_reads_518 : decode cX12_reads 518 = .ok (.invokevirtual 185, 3) := by decide +kernel
theorem dX12_reads_521 : decode cX12_reads 521 = .ok (.athrow, 1) := by decide +kernel
theorem dX12_reads_522 : decode cX12_reads 522 = .ok (.return_, 1) := by decide +kernel
theorem dX12_readWindow_0 : decode cX12_readWindow 0 = .ok (.aload_n 0, 1) := by decide +kernel
theorem dX12_readWindow_1 : decode cX12_readWindow 1 = .ok (.getfield 26, 3) := by decide +kernel
theorem dX12_readWindow_4 : decode cX12_readWindow 4 = .ok (.astore_n 2, 1) := by decide +kernel
theorem dX12_readWindow_5 : decode cX12_readWindow 5 = .ok (.aload_n 2, 1) := by decide +kernel
theorem dX12_readWindow_6 : decode cX12_readWindow 6 = .ok (.getfield 252, 3) := by decide +kernel
theorem dX12_readWindow_9 : decode cX12_readWindow 9 = .ok (.iload_n 1, 1) := by decide +kernel
theorem dX12_readWindow_10 : decode cX12_readWindow 10 = .ok (.iconst 0, 1) := by decide +kernel
theorem dX12_readWindow_11 : decode cX12_readWindow 11 = .ok (.iastore, 1) := by decide +kernel
theorem dX12_readWindow_12 : decode cX12_readWindow 12 = .ok (.aload_n 2, 1) := by decide +kernel
theorem dX12_readWindow_13 : decode cX12_readWindow 13 = .ok (.getfield 234, 3) := by decide +kernel
theorem dX12_readWindow_16 : decode cX12_readWindow 16 = .ok (.iload_n 1, 1) := by decide +kernel
theorem dX12_readWindow_17 : decode cX12_readWindow 17 = .ok (.iconst 0, 1) := by decide +kernel
theorem dX12_readWindow_18 : decode cX12_readWindow 18 = .ok (.iastore, 1) := by decide +kernel
theorem dX12_readWindow_19 : decode cX12_readWindow 19 = .ok (.aload_n 0, 1) := by decide +kernel
theorem dX12_readWindow_20 : decode cX12_readWindow 20 = .ok (.ldc 255, 2) := by decide +kernel
theorem dX12_readWindow_22 : decode cX12_readWindow 22 = .ok (.invokevirtual 191, 3) := by decide +kernel
theorem dX12_readWindow_25 : decode cX12_readWindow 25 = .ok (.ifCond .eq 71, 3) := by decide +kernel
theorem dX12_readWindow_28 : decode cX12_readWindow 28 = .ok (.aload_n 2, 1) := by decide +kernel
theorem dX12_readWindow_29 : decode cX12_readWindow 29 = .ok (.getfield 252, 3) := by decide +kernel
theorem dX12_readWindow_32 : decode cX12_readWindow 32 = .ok (.iload_n 1, 1) := by decide +kernel
theorem dX12_readWindow_33 : decode cX12_readWindow 33 = .ok (.iaload, 1) := by decide +kernel
theorem dX12_readWindow_34 : decode cX12_readWindow 34 = .ok (.bipush 6, 2) := by decide +kernel
theorem dX12_readWindow_36 : decode cX12_readWindow 36 = .ok (.if_icmp .ne 13, 3) := by decide +kernel
theorem dX12_readWindow_39 : decode cX12_readWindow 39 = .ok (.aload_n 0, 1) := by decide +kernel
theorem dX12_readWindow_40 : decode cX12_readWindow 40 = .ok (.iconst 5, 1) := by decide +kernel
theorem dX12_readWindow_41 : decode cX12_readWindow 41 = .ok (.aload_n 0, 1) := by decide +kernel
theorem dX12_readWindow_42 : decode cX12_readWindow 42 = .ok (.getfield 158, 3) := by decide +kernel
theorem dX12_readWindow_45 : decode cX12_readWindow 45 = .ok (.invokevirtual 185, 3) := by decide +kernel
theorem dX12_readWindow_48 : decode cX12_readWindow 48 = .ok (.athrow, 1) := by decide +kernel
theorem dX12_readWindow_49 : decode cX12_readWindow 49 = .ok (.aload_n 0, 1) := by decide +kernel
theorem dX12_readWindow_50 : decode cX12_readWindow 50 = .ok (.invokevirtual 188, 3) := by decide +kernel
theorem dX12_readWindow_53 : decode cX12_readWindow 53 = .ok (.aload_n 2, 1) := by decide +kernel
theorem dX12_readWindow_54 : decode cX12_readWindow 54 = .ok (.getfield 257, 3) := by decide +kernel
theorem dX12_readWindow_57 : decode cX12_readWindow 57 = .ok (.bipush 6, 2) := by decide +kernel
theorem dX12_readWindow_59 : decode cX12_readWindow 59 = .ok (.iload_n 1, 1) := by decide +kernel
theorem dX12_readWindow_60 : decode cX12_readWindow 60 = .ok (.imul, 1) := by decide +kernel
theorem dX12_readWindow_61 : decode cX12_readWindow 61 = .ok (.aload_n 2, 1) := by decide +kernel
theorem dX12_readWindow_62 : decode cX12_readWindow 62 = .ok (.getfield 252, 3) := by decide +kernel
theorem dX12_readWindow_65 : decode cX12_readWindow 65 = .ok (.iload_n 1, 1) := by decide +kernel
theorem dX12_readWindow_66 : decode cX12_readWindow 66 = .ok (.iaload, 1) := by decide +kernel
theorem dX12_readWindow_67 : decode cX12_readWindow 67 = .ok (.iadd, 1) := by decide +kernel
theorem dX12_readWindow_68 : decode cX12_readWindow 68 = .ok (.aload_n 0, 1) := by decide +kernel
theorem dX12_readWindow_69 : decode cX12_readWindow 69 = .ok (.invokevirtual 259, 3) := by decide +kernel
theorem dX12_readWindow_72 : decode cX12_readWindow 72 = .ok (.iastore, 1) := by decide +kernel
theorem dX12_readWindow_73 : decode cX12_readWindow 73 = .ok (.aload_n 0, 1) := by decide +kernel
theorem dX12_readWindow_74 : decode cX12_readWindow 74 = .ok (.invokevirtual 188, 3) := by decide +kernel
theorem dX12_readWindow_77 : decode cX12_readWindow 77 = .ok (.aload_n 0, 1) := by decide +kernel
theorem dX12_readWindow_78 : decode cX12_readWindow 78 = .ok (.bipush 59, 2) := by decide +kernel
theorem dX12_readWindow_80 : decode cX12_readWindow 80 = .ok (.invokevirtual 223, 3) := by decide +kernel
theorem dX12_readWindow_83 : decode cX12_readWindow 83 = .ok (.aload_n 2, 1) := by decide +kernel
theorem dX12_readWindow_84 : decode cX12_readWindow 84 = .ok (.getfield 252, 3) := by decide +kernel
theorem dX12_readWindow_87 : decode cX12_readWindow 87 = .ok (.iload_n 1, 1) := by decide +kernel
theorem dX12_readWindow_88 : decode cX12_readWindow 88 = .ok (.dup2, 1) := by decide +kernel
theorem dX12_readWindow_89 : decode cX12_readWindow 89 = .ok (.iaload, 1) := by decide +kernel
theorem dX12_readWindow_90 : decode cX12_readWindow 90 = .ok (.iconst 1, 1) := by decide +kernel
theorem dX12_readWindow_91 : decode cX12_readWindow 91 = .ok (.iadd, 1) := by decide +kernel
theorem dX12_readWindow_92 : decode cX12_readWindow 92 = .ok (.iastore, 1) := by decide +kernel
theorem dX12_readWindow_93 : decode cX12_readWindow 93 = .ok (.goto (-74), 3) := by decide +kernel
theorem dX12_readWindow_96 : decode cX12_readWindow 96 = .ok (.aload_n 2, 1) := by decide +kernel
theorem dX12_readWindow_97 : decode cX12_readWindow 97 = .ok (.getfield 208, 3) := by decide +kernel
theorem dX12_readWindow_100 : decode cX12_readWindow 100 = .ok (.istore_n 3, 1) := by decide +kernel
theorem dX12_readWindow_101 : decode cX12_readWindow 101 = .ok (.aload_n 0, 1) := by decide +kernel
theorem dX12_readWindow_102 : decode cX12_readWindow 102 = .ok (.ldc_w 262, 3) := by decide +kernel
theorem dX12_readWindow_105 : decode cX12_readWindow 105 = .ok (.invokevirtual 191, 3) := by decide +kernel
theorem dX12_readWindow_108 : decode cX12_readWindow 108 = .ok (.ifCond .eq 177, 3) := by decide +kernel
theorem dX12_readWindow_111 : decode cX12_readWindow 111 = .ok (.aload_n 2, 1) := by decide +kernel
theorem dX12_readWindow_112 : decode cX12_readWindow 112 = .ok (.getfield 208, 3) := by decide +kernel
theorem dX12_readWindow_115 : decode cX12_readWindow 115 = .ok (.bipush 24, 2) := by decide +kernel
theorem dX12_readWindow_117 : decode cX12_readWindow 117 = .ok (.if_icmp .ne 13, 3) := by decide +kernel
theorem dX12_readWindow_120 : decode cX12_readWindow 120 = .ok (.aload_n 0, 1) := by decide +kernel
theorem dX12_readWindow_121 : decode cX12_readWindow 121 = .ok (.iconst 5, 1) := by decide +kernel
theorem dX12_readWindow_122 : decode cX12_readWindow 122 = .ok (.aload_n 0, 1) := by decide +kernel
theorem dX12_readWindow_123 : decode cX12_readWindow 123 = .ok (.getfield 158, 3) := by decide +kernel
theorem dX12_readWindow_126 : decode cX12_readWindow 126 = .ok (.invokevirtual 185, 3) := by decide +kernel
theorem dX12_readWindow_129 : decode cX12_readWindow 129 = .ok (.athrow, 1) := by decide +kernel
theorem dX12_readWindow_130 : decode cX12_readWindow 130 = .ok (.aload_n 2, 1) := by decide +kernel
theorem dX12_readWindow_131 : decode cX12_readWindow 131 = .ok (.getfield 208, 3) := by decide +kernel
theorem dX12_readWindow_134 : decode cX12_readWindow 134 = .ok (.istore 4, 2) := by decide +kernel
theorem dX12_readWindow_136 : decode cX12_readWindow 136 = .ok (.aload_n 0, 1) := by decide +kernel
theorem dX12_readWindow_137 : decode cX12_readWindow 137 = .ok (.invokevirtual 188, 3) := by decide +kernel
theorem dX12_readWindow_140 : decode cX12_readWindow 140 = .ok (.aload_n 0, 1) := by decide +kernel
theorem dX12_readWindow_141 : decode cX12_readWindow 141 = .ok (.getfield 159, 3) := by decide +kernel
theorem dX12_readWindow_144 : decode cX12_readWindow 144 = .ok (.iconst 2, 1) := by decide +kernel
theorem dX12_readWindow_145 : decode cX12_readWindow 145 = .ok (.if_icmp .eq 13, 3) := by decide +kernel
theorem dX12_readWindow_148 : decode cX12_readWindow 148 = .ok (.aload_n 0, 1) := by decide +kernel
theorem dX12_readWindow_149 : decode cX12_readWindow 149 = .ok (.iconst 1, 1) := by decide +kernel
theorem dX12_readWindow_150 : decode cX12_readWindow 150 = .ok (.aload_n 0, 1) := by decide +kernel
theorem dX12_readWindow_151 : decode cX12_readWindow 151 = .ok (.getfield 158, 3) := by decide +kernel
theorem dX12_readWindow_154 : decode cX12_readWindow 154 = .ok (.invokevirtual 185, 3) := by decide +kernel
theorem dX12_readWindow_157 : decode cX12_readWindow 157 = .ok (.athrow, 1) := by decide +kernel
theorem dX12_readWindow_158 : decode cX12_readWindow 158 = .ok (.aload_n 2, 1) := by decide +kernel
theorem dX12_readWindow_159 : decode cX12_readWindow 159 = .ok (.getfield 264, 3) := by decide +kernel
theorem dX12_readWindow_162 : decode cX12_readWindow 162 = .ok (.iload_n 3, 1) := by decide +kernel
theorem dX12_readWindow_163 : decode cX12_readWindow 163 = .ok (.iload 4, 2) := by decide +kernel
theorem dX12_readWindow_165 : decode cX12_readWindow 165 = .ok (.aload_n 0, 1) := by decide +kernel
theorem dX12_readWindow_166 : decode cX12_readWindow 166 = .ok (.getfield 169, 3) := by decide +kernel
theorem dX12_readWindow_169 : decode cX12_readWindow 169 = .ok (.invokestatic 201, 3) := by decide +kernel
theorem dX12_readWindow_172 : decode cX12_readWindow 172 = .ok (.iconst (-1), 1) := by decide +kernel
theorem dX12_readWindow_173 : decode cX12_readWindow 173 = .ok (.if_icmp .eq 13, 3) := by decide +kernel
theorem dX12_readWindow_176 : decode cX12_readWindow 176 = .ok (.aload_n 0, 1) := by decide +kernel
theorem dX12_readWindow_177 : decode cX12_readWindow 177 = .ok (.iconst 3, 1) := by decide +kernel
theorem dX12_readWindow_178 : decode cX12_readWindow 178 = .ok (.aload_n 0, 1) := by decide +kernel
theorem dX12_readWindow_179 : decode cX12_readWindow 179 = .ok (.getfield 158, 3) := by decide +kernel
theorem dX12_readWindow_182 : decode cX12_readWindow 182 = .ok (.invokevirtual 185, 3) := by decide +kernel
theorem dX12_readWindow_185 : decode cX12_readWindow 185 = .ok (.athrow, 1) := by decide +kernel
theorem dX12_readWindow_186 : decode cX12_readWindow 186 = .ok (.aload_n 2, 1) := by decide +kernel
theorem dX12_readWindow_187 : decode cX12_readWindow 187 = .ok (.getfield 264, 3) := by decide +kernel
theorem dX12_readWindow_190 : decode cX12_readWindow 190 = .ok (.iload 4, 2) := by decide +kernel
theorem dX12_readWindow_192 : decode cX12_readWindow 192 = .ok (.aload_n 0, 1) := by decide +kernel
theorem dX12_readWindow_193 : decode cX12_readWindow 193 = .ok (.getfield 169, 3) := by decide +kernel
theorem dX12_readWindow_196 : decode cX12_readWindow 196 = .ok (.lastore, 1) := by decide +kernel
theorem dX12_readWindow_197 : decode cX12_readWindow 197 = .ok (.aload_n 2, 1) := by decide +kernel
theorem dX12_readWindow_198 : decode cX12_readWindow 198 = .ok (.getfield 267, 3) := by decide +kernel
theorem dX12_readWindow_201 : decode cX12_readWindow 201 = .ok (.iload 4, 2) := by decide +kernel
theorem dX12_readWindow_203 : decode cX12_readWindow 203 = .ok (.iload_n 1, 1) := by decide +kernel
theorem dX12_readWindow_204 : decode cX12_readWindow 204 = .ok (.iastore, 1) := by decide +kernel
theorem dX12_readWindow_205 : decode cX12_readWindow 205 = .ok (.aload_n 2, 1) := by decide +kernel
theorem dX12_readWindow_206 : decode cX12_readWindow 206 = .ok (.getfield 270, 3) := by decide +kernel
theorem dX12_readWindow_209 : decode cX12_readWindow 209 = .ok (.iload 4, 2) := by decide +kernel
theorem dX12_readWindow_211 : decode cX12_readWindow 211 = .ok (.iconst 0, 1) := by decide +kernel
theorem dX12_readWindow_212 : decode cX12_readWindow 212 = .ok (.iastore, 1) := by decide +kernel
theorem dX12_readWindow_213 : decode cX12_readWindow 213 = .ok (.aload_n 0, 1) := by decide +kernel
theorem dX12_readWindow_214 : decode cX12_readWindow 214 = .ok (.invokevirtual 188, 3) := by decide +kernel
theorem dX12_readWindow_217 : decode cX12_readWindow 217 = .ok (.aload_n 0, 1) := by decide +kernel
theorem dX12_readWindow_218 : decode cX12_readWindow 218 = .ok (.ldc_w 273, 3) := by decide +kernel
theorem dX12_readWindow_221 : decode cX12_readWindow 221 = .ok (.invokevirtual 191, 3) := by decide +kernel
theorem dX12_readWindow_224 : decode cX12_readWindow 224 = .ok (.istore 5, 2) := by decide +kernel
theorem dX12_readWindow_226 : decode cX12_readWindow 226 = .ok (.iload 5, 2) := by decide +kernel
theorem dX12_readWindow_228 : decode cX12_readWindow 228 = .ok (.ifCond .eq 25, 3) := by decide +kernel
theorem dX12_readWindow_231 : decode cX12_readWindow 231 = .ok (.aload_n 0, 1) := by decide +kernel
theorem dX12_readWindow_232 : decode cX12_readWindow 232 = .ok (.invokevirtual 188, 3) := by decide +kernel
theorem dX12_readWindow_235 : decode cX12_readWindow 235 = .ok (.aload_n 0, 1) := by decide +kernel
theorem dX12_readWindow_236 : decode cX12_readWindow 236 = .ok (.iload 4, 2) := by decide +kernel
theorem dX12_readWindow_238 : decode cX12_readWindow 238 = .ok (.invokevirtual 275, 3) := by decide +kernel
theorem dX12_readWindow_241 : decode cX12_readWindow 241 = .ok (.aload_n 0, 1) := by decide +kernel
theorem dX12_readWindow_242 : decode cX12_readWindow 242 = .ok (.ldc_w 278, 3) := by decide +kernel
theorem dX12_readWindow_245 : decode cX12_readWindow 245 = .ok (.invokevirtual 191, 3) := by decide +kernel
theorem dX12_readWindow_248 : decode cX12_readWindow 248 = .ok (.istore 5, 2) := by decide +kernel
theorem dX12_readWindow_250 : decode cX12_readWindow 250 = .ok (.goto (-24), 3) := by decide +kernel
theorem dX12_readWindow_253 : decode cX12_readWindow 253 = .ok (.aload_n 0, 1) := by decide +kernel
theorem dX12_readWindow_254 : decode cX12_readWindow 254 = .ok (.ldc_w 280, 3) := by decide +kernel
theorem dX12_readWindow_257 : decode cX12_readWindow 257 = .ok (.invokevirtual 282, 3) := by decide +kernel
theorem dX12_readWindow_260 : decode cX12_readWindow 260 = .ok (.aload_n 0, 1) := by decide +kernel
theorem dX12_readWindow_261 : decode cX12_readWindow 261 = .ok (.iload 4, 2) := by decide +kernel
theorem dX12_readWindow_263 : decode cX12_readWindow 263 = .ok (.invokevirtual 286, 3) := by decide +kernel
theorem dX12_readWindow_266 : decode cX12_readWindow 266 = .ok (.aload_n 0, 1) := by decide +kernel
theorem dX12_readWindow_267 : decode cX12_readWindow 267 = .ok (.bipush 59, 2) := by decide +kernel
theorem dX12_readWindow_269 : decode cX12_readWindow 269 = .ok (.invokevirtual 223, 3) := by decide +kernel
theorem dX12_readWindow_272 : decode cX12_readWindow 272 = .ok (.aload_n 2, 1) := by decide +kernel
theorem dX12_readWindow_273 : decode cX12_readWindow 273 = .ok (.dup, 1) := by decide +kernel
theorem dX12_readWindow_274 : decode cX12_readWindow 274 = .ok (.getfield 208, 3) := by decide +kernel
theorem dX12_readWindow_277 : decode cX12_readWindow 277 = .ok (.iconst 1, 1) := by decide +kernel
theorem dX12_readWindow_278 : decode cX12_readWindow 278 = .ok (.iadd, 1) := by decide +kernel
theorem dX12_readWindow_279 : decode cX12_readWindow 279 = .ok (.putfield 208, 3) := by decide +kernel
theorem dX12_readWindow_282 : decode cX12_readWindow 282 = .ok (.goto (-181), 3) := by decide +kernel
theorem dX12_readWindow_285 : decode cX12_readWindow 285 = .ok (.aload_n 0, 1) := by decide +kernel
theorem dX12_readWindow_286 : decode cX12_readWindow 286 = .ok (.ldc_w 289, 3) := by decide +kernel
theorem dX12_readWindow_289 : decode cX12_readWindow 289 = .ok (.invokevirtual 191, 3) := by decide +kernel
theorem dX12_readWindow_292 : decode cX12_readWindow 292 = .ok (.ifCond .ne 4, 3) := by decide +kernel
theorem dX12_readWindow_295 : decode cX12_readWindow 295 = .ok (.return_, 1) := by decide +kernel
theorem dX12_readWindow_296 : decode cX12_readWindow 296 = .ok (.aload_n 0, 1) := by decide +kernel
theorem dX12_readWindow_297 : decode cX12_readWindow 297 = .ok (.invokevirtual 188, 3) := by decide +kernel
theorem dX12_readWindow_300 : decode cX12_readWindow 300 = .ok (.aload_n 2, 1) := by decide +kernel
theorem dX12_readWindow_301 : decode cX12_readWindow 301 = .ok (.getfield 234, 3) := by decide +kernel
theorem dX12_readWindow_304 : decode cX12_readWindow 304 = .ok (.iload_n 1, 1) := by decide +kernel
theorem dX12_readWindow_305 : decode cX12_readWindow 305 = .ok (.aload_n 0, 1) := by decide +kernel
theorem dX12_readWindow_306 : decode cX12_readWindow 306 = .ok (.iconst 1, 1) := by decide +kernel
theorem dX12_readWindow_307 : decode cX12_readWindow 307 = .ok (.bipush 9, 2) := by decide +kernel
theorem dX12_readWindow_309 : decode cX12_readWindow 309 = .ok (.invokevirtual 219, 3) := by decide +kernel
theorem dX12_readWindow_312 : decode cX12_readWindow 312 = .ok (.iastore, 1) := by decide +kernel
theorem dX12_readWindow_313 : decode cX12_readWindow 313 = .ok (.aload_n 0, 1) := by decide +kernel
theorem dX12_readWindow_314 : decode cX12_readWindow 314 = .ok (.ldc_w 280, 3) := by decide +kernel
theorem dX12_readWindow_317 : decode cX12_readWindow 317 = .ok (.invokevirtual 282, 3) := by decide +kernel
theorem dX12_readWindow_320 : decode cX12_readWindow 320 = .ok (.aload_n 0, 1) := by decide +kernel
theorem dX12_readWindow_321 : decode cX12_readWindow 321 = .ok (.bipush 24, 2) := by decide +kernel
theorem dX12_readWindow_323 : decode cX12_readWindow 323 = .ok (.iload_n 1, 1) := by decide +kernel
theorem dX12_readWindow_324 : decode cX12_readWindow 324 = .ok (.iadd, 1) := by decide +kernel
theorem dX12_readWindow_325 : decode cX12_readWindow 325 = .ok (.invokevirtual 286, 3) := by decide +kernel
theorem dX12_readWindow_328 : decode cX12_readWindow 328 = .ok (.aload_n 0, 1) := by decide +kernel
theorem dX12_readWindow_329 : decode cX12_readWindow 329 = .ok (.bipush 59, 2) := by decide +kernel
theorem dX12_readWindow_331 : decode cX12_readWindow 331 = .ok (.invokevirtual 223, 3) := by decide +kernel
theorem dX12_readWindow_334 : decode cX12_readWindow 334 = .ok (.return_, 1) := by decide +kernel
theorem dX12_readCond_0 : decode cX12_readCond 0 = .ok (.aload_n 0, 1) := by decide +kernel
theorem dX12_readCond_1 : decode cX12_readCond 1 = .ok (.getfield 26, 3) := by decide +kernel
theorem dX12_readCond_4 : decode cX12_readCond 4 = .ok (.astore_n 2, 1) := by decide +kernel
theorem dX12_readCond_5 : decode cX12_readCond 5 = .ok (.aload_n 0, 1) := by decide +kernel
theorem dX12_readCond_6 : decode cX12_readCond 6 = .ok (.invokevirtual 259, 3) := by decide +kernel
theorem dX12_readCond_9 : decode cX12_readCond 9 = .ok (.istore_n 3, 1) := by decide +kernel
theorem dX12_readCond_10 : decode cX12_readCond 10 = .ok (.aload_n 2, 1) := by decide +kernel
theorem dX12_readCond_11 : decode cX12_readCond 11 = .ok (.getfield 270, 3) := by decide +kernel
theorem dX12_readCond_14 : decode cX12_readCond 14 = .ok (.iload_n 1, 1) := by decide +kernel
theorem dX12_readCond_15 : decode cX12_readCond 15 = .ok (.iaload, 1) := by decide +kernel
theorem dX12_readCond_16 : decode cX12_readCond 16 = .ok (.iconst 3, 1) := by decide +kernel
theorem dX12_readCond_17 : decode cX12_readCond 17 = .ok (.if_icmp .ne 13, 3) := by decide +kernel
theorem dX12_readCond_20 : decode cX12_readCond 20 = .ok (.aload_n 0, 1) := by decide +kernel
theorem dX12_readCond_21 : decode cX12_readCond 21 = .ok (.iconst 5, 1) := by decide +kernel
theorem dX12_readCond_22 : decode cX12_readCond 22 = .ok (.aload_n 0, 1) := by decide +kernel
theorem dX12_readCond_23 : decode cX12_readCond 23 = .ok (.getfield 158, 3) := by decide +kernel
theorem dX12_readCond_26 : decode cX12_readCond 26 = .ok (.invokevirtual 185, 3) := by decide +kernel
theorem dX12_readCond_29 : decode cX12_readCond 29 = .ok (.athrow, 1) := by decide +kernel
theorem dX12_readCond_30 : decode cX12_readCond 30 = .ok (.iconst 3, 1) := by decide +kernel
theorem dX12_readCond_31 : decode cX12_readCond 31 = .ok (.iload_n 1, 1) := by decide +kernel
theorem dX12_readCond_32 : decode cX12_readCond 32 = .ok (.imul, 1) := by decide +kernel
theorem dX12_readCond_33 : decode cX12_readCond 33 = .ok (.aload_n 2, 1) := by decide +kernel
theorem dX12_readCond_34 : decode cX12_readCond 34 = .ok (.getfield 270, 3) := by decide +kernel
theorem dX12_readCond_37 : decode cX12_readCond 37 = .ok (.iload_n 1, 1) := by decide +kernel
theorem dX12_readCond_38 : decode cX12_readCond 38 = .ok (.iaload, 1) := by decide +kernel
theorem dX12_readCond_39 : decode cX12_readCond 39 = .ok (.iadd, 1) := by decide +kernel
theorem dX12_readCond_40 : decode cX12_readCond 40 = .ok (.istore 4, 2) := by decide +kernel
theorem dX12_readCond_42 : decode cX12_readCond 42 = .ok (.aload_n 2, 1) := by decide +kernel
theorem dX12_readCond_43 : decode cX12_readCond 43 = .ok (.getfield 291, 3) := by decide +kernel
theorem dX12_readCond_46 : decode cX12_readCond 46 = .ok (.iload 4, 2) := by decide +kernel
theorem dX12_readCond_48 : decode cX12_readCond 48 = .ok (.iload_n 3, 1) := by decide +kernel
theorem dX12_readCond_49 : decode cX12_readCond 49 = .ok (.iastore, 1) := by decide +kernel
theorem dX12_readCond_50 : decode cX12_readCond 50 = .ok (.aload_n 0, 1) := by decide +kernel
theorem dX12_readCond_51 : decode cX12_readCond 51 = .ok (.invokevirtual 188, 3) := by decide +kernel
theorem dX12_readCond_54 : decode cX12_readCond 54 = .ok (.aload_n 0, 1) := by decide +kernel
theorem dX12_readCond_55 : decode cX12_readCond 55 = .ok (.bipush 61, 2) := by decide +kernel
theorem dX12_readCond_57 : decode cX12_readCond 57 = .ok (.invokevirtual 183, 3) := by decide +kernel
theorem dX12_readCond_60 : decode cX12_readCond 60 = .ok (.ifCond .ne 31, 3) := by decide +kernel
theorem dX12_readCond_63 : decode cX12_readCond 63 = .ok (.aload_n 0, 1) := by decide +kernel
theorem dX12_readCond_64 : decode cX12_readCond 64 = .ok (.bipush 60, 2) := by decide +kernel
theorem dX12_readCond_66 : decode cX12_readCond 66 = .ok (.invokevirtual 183, 3) := by decide +kernel
theorem dX12_readCond_69 : decode cX12_readCond 69 = .ok (.ifCond .ne 22, 3) := by decide +kernel
theorem dX12_readCond_72 : decode cX12_readCond 72 = .ok (.aload_n 0, 1) := by decide +kernel
theorem dX12_readCond_73 : decode cX12_readCond 73 = .ok (.bipush 62, 2) := by decide +kernel
theorem dX12_readCond_75 : decode cX12_readCond 75 = .ok (.invokevirtual 183, 3) := by decide +kernel
theorem dX12_readCond_78 : decode cX12_readCond 78 = .ok (.ifCond .ne 13, 3) := by decide +kernel
theorem dX12_readCond_81 : decode cX12_readCond 81 = .ok (.aload_n 0, 1) := by decide +kernel
theorem dX12_readCond_82 : decode cX12_readCond 82 = .ok (.iconst 1, 1) := by decide +kernel
theorem dX12_readCond_83 : decode cX12_readCond 83 = .ok (.aload_n 0, 1) := by decide +kernel
theorem dX12_readCond_84 : decode cX12_readCond 84 = .ok (.getfield 158, 3) := by decide +kernel
theorem dX12_readCond_87 : decode cX12_readCond 87 = .ok (.invokevirtual 185, 3) := by decide +kernel
theorem dX12_readCond_90 : decode cX12_readCond 90 = .ok (.athrow, 1) := by decide +kernel
theorem dX12_readCond_91 : decode cX12_readCond 91 = .ok (.aload_n 2, 1) := by decide +kernel
theorem dX12_readCond_92 : decode cX12_readCond 92 = .ok (.getfield 294, 3) := by decide +kernel
theorem dX12_readCond_95 : decode cX12_readCond 95 = .ok (.iload 4, 2) := by decide +kernel
theorem dX12_readCond_97 : decode cX12_readCond 97 = .ok (.aload_n 0, 1) := by decide +kernel
theorem dX12_readCond_98 : decode cX12_readCond 98 = .ok (.getfield 162, 3) := by decide +kernel
theorem dX12_readCond_101 : decode cX12_readCond 101 = .ok (.iastore, 1) := by decide +kernel
theorem dX12_readCond_102 : decode cX12_readCond 102 = .ok (.aload_n 0, 1) := by decide +kernel
theorem dX12_readCond_103 : decode cX12_readCond 103 = .ok (.invokevirtual 188, 3) := by decide +kernel
theorem dX12_readCond_106 : decode cX12_readCond 106 = .ok (.aload_n 2, 1) := by decide +kernel
theorem dX12_readCond_107 : decode cX12_readCond 107 = .ok (.getfield 297, 3) := by decide +kernel
theorem dX12_readCond_110 : decode cX12_readCond 110 = .ok (.iload 4, 2) := by decide +kernel
theorem dX12_readCond_112 : decode cX12_readCond 112 = .ok (.aload_n 0, 1) := by decide +kernel
theorem dX12_readCond_113 : decode cX12_readCond 113 = .ok (.iconst 0, 1) := by decide +kernel
theorem dX12_readCond_114 : decode cX12_readCond 114 = .ok (.bipush 9, 2) := by decide +kernel
theorem dX12_readCond_116 : decode cX12_readCond 116 = .ok (.invokevirtual 219, 3) := by decide +kernel
theorem dX12_readCond_119 : decode cX12_readCond 119 = .ok (.iastore, 1) := by decide +kernel
theorem dX12_readCond_120 : decode cX12_readCond 120 = .ok (.aload_n 2, 1) := by decide +kernel
theorem dX12_readCond_121 : decode cX12_readCond 121 = .ok (.getfield 270, 3) := by decide +kernel
theorem dX12_readCond_124 : decode cX12_readCond 124 = .ok (.iload_n 1, 1) := by decide +kernel
theorem dX12_readCond_125 : decode cX12_readCond 125 = .ok (.dup2, 1) := by decide +kernel
theorem dX12_readCond_126 : decode cX12_readCond 126 = .ok (.iaload, 1) := by decide +kernel
theorem dX12_readCond_127 : decode cX12_readCond 127 = .ok (.iconst 1, 1) := by decide +kernel
theorem dX12_readCond_128 : decode cX12_readCond 128 = .ok (.iadd, 1) := by decide +kernel
theorem dX12_readCond_129 : decode cX12_readCond 129 = .ok (.iastore, 1) := by decide +kernel
theorem dX12_readCond_130 : decode cX12_readCond 130 = .ok (.return_, 1) := by decide +kernel
theorem dX12_readDeeds_0 : decode cX12_readDeeds 0 = .ok (.aload_n 0, 1) := by decide +kernel
theorem dX12_readDeeds_1 : decode cX12_readDeeds 1 = .ok (.getfield 26, 3) := by decide +kernel
theorem dX12_readDeeds_4 : decode cX12_readDeeds 4 = .ok (.astore_n 2, 1) := by decide +kernel
theorem dX12_readDeeds_5 : decode cX12_readDeeds 5 = .ok (.aload_n 2, 1) := by decide +kernel
theorem dX12_readDeeds_6 : decode cX12_readDeeds 6 = .ok (.getfield 237, 3) := by decide +kernel
theorem dX12_readDeeds_9 : decode cX12_readDeeds 9 = .ok (.iload_n 1, 1) := by decide +kernel
theorem dX12_readDeeds_10 : decode cX12_readDeeds 10 = .ok (.iconst 0, 1) := by decide +kernel
theorem dX12_readDeeds_11 : decode cX12_readDeeds 11 = .ok (.iastore, 1) := by decide +kernel
theorem dX12_readDeeds_12 : decode cX12_readDeeds 12 = .ok (.iconst 1, 1) := by decide +kernel
theorem dX12_readDeeds_13 : decode cX12_readDeeds 13 = .ok (.istore_n 3, 1) := by decide +kernel
theorem dX12_readDeeds_14 : decode cX12_readDeeds 14 = .ok (.iload_n 3, 1) := by decide +kernel
theorem dX12_readDeeds_15 : decode cX12_readDeeds 15 = .ok (.ifCond .eq 300, 3) := by decide +kernel
theorem dX12_readDeeds_18 : decode cX12_readDeeds 18 = .ok (.aload_n 0, 1) := by decide +kernel
theorem dX12_readDeeds_19 : decode cX12_readDeeds 19 = .ok (.ldc_w 300, 3) := by decide +kernel
theorem dX12_readDeeds_22 : decode cX12_readDeeds 22 = .ok (.invokevirtual 191, 3) := by decide +kernel
theorem dX12_readDeeds_25 : decode cX12_readDeeds 25 = .ok (.ifCond .eq 7, 3) := by decide +kernel
theorem dX12_readDeeds_28 : decode cX12_readDeeds 28 = .ok (.iconst 0, 1) := by decide +kernel
theorem dX12_readDeeds_29 : decode cX12_readDeeds 29 = .ok (.goto 60, 3) := by decide +kernel
theorem dX12_readDeeds_32 : decode cX12_readDeeds 32 = .ok (.aload_n 0, 1) := by decide +kernel
theorem dX12_readDeeds_33 : decode cX12_readDeeds 33 = .ok (.ldc_w 302, 3) := by decide +kernel
theorem dX12_readDeeds_36 : decode cX12_readDeeds 36 = .ok (.invokevirtual 191, 3) := by decide +kernel
theorem dX12_readDeeds_39 : decode cX12_readDeeds 39 = .ok (.ifCond .eq 7, 3) := by decide +kernel
theorem dX12_readDeeds_42 : decode cX12_readDeeds 42 = .ok (.iconst 1, 1) := by decide +kernel
theorem dX12_readDeeds_43 : decode cX12_readDeeds 43 = .ok (.goto 46, 3) := by decide +kernel
theorem dX12_readDeeds_46 : decode cX12_readDeeds 46 = .ok (.aload_n 0, 1) := by decide +kernel
theorem dX12_readDeeds_47 : decode cX12_readDeeds 47 = .ok (.ldc_w 304, 3) := by decide +kernel
theorem dX12_readDeeds_50 : decode cX12_readDeeds 50 = .ok (.invokevirtual 191, 3) := by decide +kernel
theorem dX12_readDeeds_53 : decode cX12_readDeeds 53 = .ok (.ifCond .eq 7, 3) := by decide +kernel
theorem dX12_readDeeds_56 : decode cX12_readDeeds 56 = .ok (.iconst 2, 1) := by decide +kernel
theorem dX12_readDeeds_57 : decode cX12_readDeeds 57 = .ok (.goto 32, 3) := by decide +kernel
theorem dX12_readDeeds_60 : decode cX12_readDeeds 60 = .ok (.aload_n 0, 1) := by decide +kernel
theorem dX12_readDeeds_61 : decode cX12_readDeeds 61 = .ok (.ldc_w 306, 3) := by decide +kernel
theorem dX12_readDeeds_64 : decode cX12_readDeeds 64 = .ok (.invokevirtual 191, 3) := by decide +kernel
theorem dX12_readDeeds_67 : decode cX12_readDeeds 67 = .ok (.ifCond .eq 7, 3) := by decide +kernel
theorem dX12_readDeeds_70 : decode cX12_readDeeds 70 = .ok (.iconst 3, 1) := by decide +kernel
theorem dX12_readDeeds_71 : decode cX12_readDeeds 71 = .ok (.goto 18, 3) := by decide +kernel
theorem dX12_readDeeds_74 : decode cX12_readDeeds 74 = .ok (.aload_n 0, 1) := by decide +kernel
theorem dX12_readDeeds_75 : decode cX12_readDeeds 75 = .ok (.ldc_w 308, 3) := by decide +kernel
theorem dX12_readDeeds_78 : decode cX12_readDeeds 78 = .ok (.invokevirtual 191, 3) := by decide +kernel
theorem dX12_readDeeds_81 : decode cX12_readDeeds 81 = .ok (.ifCond .eq 7, 3) := by decide +kernel
theorem dX12_readDeeds_84 : decode cX12_readDeeds 84 = .ok (.iconst 4, 1) := by decide +kernel
theorem dX12_readDeeds_85 : decode cX12_readDeeds 85 = .ok (.goto 4, 3) := by decide +kernel
theorem dX12_readDeeds_88 : decode cX12_readDeeds 88 = .ok (.iconst (-1), 1) := by decide +kernel
theorem dX12_readDeeds_89 : decode cX12_readDeeds 89 = .ok (.istore 4, 2) := by decide +kernel
theorem dX12_readDeeds_91 : decode cX12_readDeeds 91 = .ok (.iload 4, 2) := by decide +kernel
theorem dX12_readDeeds_93 : decode cX12_readDeeds 93 = .ok (.iconst (-1), 1) := by decide +kernel
theorem dX12_readDeeds_94 : decode cX12_readDeeds 94 = .ok (.if_icmp .ne 13, 3) := by decide +kernel
theorem dX12_readDeeds_97 : decode cX12_readDeeds 97 = .ok (.aload_n 0, 1) := by decide +kernel
theorem dX12_readDeeds_98 : decode cX12_readDeeds 98 = .ok (.iconst 1, 1) := by decide +kernel
theorem dX12_readDeeds_99 : decode cX12_readDeeds 99 = .ok (.aload_n 0, 1) := by decide +kernel
theorem dX12_readDeeds_100 : decode cX12_readDeeds 100 = .ok (.getfield 158, 3) := by decide +kernel
theorem dX12_readDeeds_103 : decode cX12_readDeeds 103 = .ok (.invokevirtual 185, 3) := by decide +kernel
theorem dX12_readDeeds_106 : decode cX12_readDeeds 106 = .ok (.athrow, 1) := by decide +kernel
theorem dX12_readDeeds_107 : decode cX12_readDeeds 107 = .ok (.aload_n 2, 1) := by decide +kernel
theorem dX12_readDeeds_108 : decode cX12_readDeeds 108 = .ok (.getfield 237, 3) := by decide +kernel
theorem dX12_readDeeds_111 : decode cX12_readDeeds 111 = .ok (.iload_n 1, 1) := by decide +kernel
theorem dX12_readDeeds_112 : decode cX12_readDeeds 112 = .ok (.iaload, 1) := by decide +kernel
theorem dX12_readDeeds_113 : decode cX12_readDeeds 113 = .ok (.iconst 4, 1) := by decide +kernel
theorem dX12_readDeeds_114 : decode cX12_readDeeds 114 = .ok (.if_icmp .ne 13, 3) := by decide +kernel
theorem dX12_readDeeds_117 : decode cX12_readDeeds 117 = .ok (.aload_n 0, 1) := by decide +kernel
theorem dX12_readDeeds_118 : decode cX12_readDeeds 118 = .ok (.iconst 5, 1) := by decide +kernel
theorem dX12_readDeeds_119 : decode cX12_readDeeds 119 = .ok (.aload_n 0, 1) := by decide +kernel
theorem dX12_readDeeds_120 : decode cX12_readDeeds 120 = .ok (.getfield 158, 3) := by decide +kernel
theorem dX12_readDeeds_123 : decode cX12_readDeeds 123 = .ok (.invokevirtual 185, 3) := by decide +kernel
theorem dX12_readDeeds_126 : decode cX12_readDeeds 126 = .ok (.athrow, 1) := by decide +kernel
theorem dX12_readDeeds_127 : decode cX12_readDeeds 127 = .ok (.iconst 4, 1) := by decide +kernel
theorem dX12_readDeeds_128 : decode cX12_readDeeds 128 = .ok (.iload_n 1, 1) := by decide +kernel
theorem dX12_readDeeds_129 : decode cX12_readDeeds 129 = .ok (.imul, 1) := by decide +kernel
theorem dX12_readDeeds_130 : decode cX12_readDeeds 130 = .ok (.aload_n 2, 1) := by decide +kernel
theorem dX12_readDeeds_131 : decode cX12_readDeeds 131 = .ok (.getfield 237, 3) := by decide +kernel
theorem dX12_readDeeds_134 : decode cX12_readDeeds 134 = .ok (.iload_n 1, 1) := by decide +kernel
theorem dX12_readDeeds_135 : decode cX12_readDeeds 135 = .ok (.iaload, 1) := by decide +kernel
theorem dX12_readDeeds_136 : decode cX12_readDeeds 136 = .ok (.iadd, 1) := by decide +kernel
theorem dX12_readDeeds_137 : decode cX12_readDeeds 137 = .ok (.istore 5, 2) := by decide +kernel
theorem dX12_readDeeds_139 : decode cX12_readDeeds 139 = .ok (.aload_n 2, 1) := by decide +kernel
theorem dX12_readDeeds_140 : decode cX12_readDeeds 140 = .ok (.getfield 240, 3) := by decide +kernel
theorem dX12_readDeeds_143 : decode cX12_readDeeds 143 = .ok (.iload 5, 2) := by decide +kernel
theorem dX12_readDeeds_145 : decode cX12_readDeeds 145 = .ok (.iload 4, 2) := by decide +kernel
theorem dX12_readDeeds_147 : decode cX12_readDeeds 147 = .ok (.iastore, 1) := by decide +kernel
theorem dX12_readDeeds_148 : decode cX12_readDeeds 148 = .ok (.aload_n 0, 1) := by decide +kernel
theorem dX12_readDeeds_149 : decode cX12_readDeeds 149 = .ok (.invokevirtual 188, 3) := by decide +kernel
theorem dX12_readDeeds_152 : decode cX12_readDeeds 152 = .ok (.iload 4, 2) := by decide +kernel
theorem dX12_readDeeds_154 : decode cX12_readDeeds 154 = .ok (.ifCond .ne 50, 3) := by decide +kernel
theorem dX12_readDeeds_157 : decode cX12_readDeeds 157 = .ok (.aload_n 0, 1) := by decide +kernel
theorem dX12_readDeeds_158 : decode cX12_readDeeds 158 = .ok (.getfield 159, 3) := by decide +kernel
theorem dX12_readDeeds_161 : decode cX12_readDeeds 161 = .ok (.iconst 2, 1) := by decide +kernel
theorem dX12_readDeeds_162 : decode cX12_readDeeds 162 = .ok (.if_icmp .eq 13, 3) := by decide +kernel
theorem dX12_readDeeds_165 : decode cX12_readDeeds 165 = .ok (.aload_n 0, 1) := by decide +kernel
theorem dX12_readDeeds_166 : decode cX12_readDeeds 166 = .ok (.iconst 1, 1) := by decide +kernel
theorem dX12_readDeeds_167 : decode cX12_readDeeds 167 = .ok (.aload_n 0, 1) := by decide +kernel
theorem dX12_readDeeds_168 : decode cX12_readDeeds 168 = .ok (.getfield 158, 3) := by decide +kernel
theorem dX12_readDeeds_171 : decode cX12_readDeeds 171 = .ok (.invokevirtual 185, 3) := by decide +kernel
theorem dX12_readDeeds_174 : decode cX12_readDeeds 174 = .ok (.athrow, 1) := by decide +kernel
theorem dX12_readDeeds_175 : decode cX12_readDeeds 175 = .ok (.aload_n 2, 1) := by decide +kernel
theorem dX12_readDeeds_176 : decode cX12_readDeeds 176 = .ok (.getfield 246, 3) := by decide +kernel
theorem dX12_readDeeds_179 : decode cX12_readDeeds 179 = .ok (.iload 5, 2) := by decide +kernel
theorem dX12_readDeeds_181 : decode cX12_readDeeds 181 = .ok (.aload_n 0, 1) := by decide +kernel
theorem dX12_readDeeds_182 : decode cX12_readDeeds 182 = .ok (.getfield 169, 3) := by decide +kernel
theorem dX12_readDeeds_185 : decode cX12_readDeeds 185 = .ok (.lastore, 1) := by decide +kernel
theorem dX12_readDeeds_186 : decode cX12_readDeeds 186 = .ok (.aload_n 2, 1) := by decide +kernel
theorem dX12_readDeeds_187 : decode cX12_readDeeds 187 = .ok (.getfield 249, 3) := by decide +kernel
theorem dX12_readDeeds_190 : decode cX12_readDeeds 190 = .ok (.iload 5, 2) := by decide +kernel
theorem dX12_readDeeds_192 : decode cX12_readDeeds 192 = .ok (.aload_n 0, 1) := by decide +kernel
theorem dX12_readDeeds_193 : decode cX12_readDeeds 193 = .ok (.getfield 158, 3) := by decide +kernel
theorem dX12_readDeeds_196 : decode cX12_readDeeds 196 = .ok (.iastore, 1) := by decide +kernel
theorem dX12_readDeeds_197 : decode cX12_readDeeds 197 = .ok (.aload_n 0, 1) := by decide +kernel
theorem dX12_readDeeds_198 : decode cX12_readDeeds 198 = .ok (.invokevirtual 188, 3) := by decide +kernel
theorem dX12_readDeeds_201 : decode cX12_readDeeds 201 = .ok (.goto 86, 3) := by decide +kernel
theorem dX12_readDeeds_204 : decode cX12_readDeeds 204 = .ok (.iload 4, 2) := by decide +kernel
theorem dX12_readDeeds_206 : decode cX12_readDeeds 206 = .ok (.iconst 4, 1) := by decide +kernel
theorem dX12_readDeeds_207 : decode cX12_readDeeds 207 = .ok (.if_icmp .ne 20, 3) := by decide +kernel
theorem dX12_readDeeds_210 : decode cX12_readDeeds 210 = .ok (.aload_n 2, 1) := by decide +kernel
theorem dX12_readDeeds_211 : decode cX12_readDeeds 211 = .ok (.getfield 243, 3) := by decide +kernel
theorem dX12_readDeeds_214 : decode cX12_readDeeds 214 = .ok (.iload 5, 2) := by decide +kernel
theorem dX12_readDeeds_216 : decode cX12_readDeeds 216 = .ok (.aload_n 0, 1) := by decide +kernel
theorem dX12_readDeeds_217 : decode cX12_readDeeds 217 = .ok (.iconst 1, 1) := by decide +kernel
theorem dX12_readDeeds_218 : decode cX12_readDeeds 218 = .ok (.bipush 20, 2) := by decide +kernel
theorem dX12_readDeeds_220 : decode cX12_readDeeds 220 = .ok (.invokevirtual 219, 3) := by decide +kernel
theorem dX12_readDeeds_223 : decode cX12_readDeeds 223 = .ok (.iastore, 1) := by decide +kernel
theorem dX12_readDeeds_224 : decode cX12_readDeeds 224 = .ok (.goto 63, 3) := by decide +kernel
theorem dX12_readDeeds_227 : decode cX12_readDeeds 227 = .ok (.iload 4, 2) := by decide +kernel
theorem dX12_readDeeds_229 : decode cX12_readDeeds 229 = .ok (.iconst 1, 1) := by decide +kernel
theorem dX12_readDeeds_230 : decode cX12_readDeeds 230 = .ok (.if_icmp .le 57, 3) := by decide +kernel
theorem dX12_readDeeds_233 : decode cX12_readDeeds 233 = .ok (.aload_n 0, 1) := by decide +kernel
theorem dX12_readDeeds_234 : decode cX12_readDeeds 234 = .ok (.invokevirtual 259, 3) := by decide +kernel
theorem dX12_readDeeds_237 : decode cX12_readDeeds 237 = .ok (.istore 6, 2) := by decide +kernel
theorem dX12_readDeeds_239 : decode cX12_readDeeds 239 = .ok (.aload_n 2, 1) := by decide +kernel
theorem dX12_readDeeds_240 : decode cX12_readDeeds 240 = .ok (.getfield 243, 3) := by decide +kernel
theorem dX12_readDeeds_243 : decode cX12_readDeeds 243 = .ok (.iload 5, 2) := by decide +kernel
theorem dX12_readDeeds_245 : decode cX12_readDeeds 245 = .ok (.iload 6, 2) := by decide +kernel
theorem dX12_readDeeds_247 : decode cX12_readDeeds 247 = .ok (.iastore, 1) := by decide +kernel
theorem dX12_readDeeds_248 : decode cX12_readDeeds 248 = .ok (.aload_n 0, 1) := by decide +kernel
theorem dX12_readDeeds_249 : decode cX12_readDeeds 249 = .ok (.invokevirtual 188, 3) := by decide +kernel
theorem dX12_readDeeds_252 : decode cX12_readDeeds 252 = .ok (.aload_n 2, 1) := by decide +kernel
theorem dX12_readDeeds_253 : decode cX12_readDeeds 253 = .ok (.getfield 310, 3) := by decide +kernel
theorem dX12_readDeeds_256 : decode cX12_readDeeds 256 = .ok (.iload 5, 2) := by decide +kernel
theorem dX12_readDeeds_258 : decode cX12_readDeeds 258 = .ok (.iload 4, 2) := by decide +kernel
theorem dX12_readDeeds_260 : decode cX12_readDeeds 260 = .ok (.iconst 2, 1) := by decide +kernel
theorem dX12_readDeeds_261 : decode cX12_readDeeds 261 = .ok (.if_icmp .ne 18, 3) := by decide +kernel
theorem dX12_readDeeds_264 : decode cX12_readDeeds 264 = .ok (.aload_n 0, 1) := by decide +kernel
theorem dX12_readDeeds_265 : decode cX12_readDeeds 265 = .ok (.iconst 0, 1) := by decide +kernel
theorem dX12_readDeeds_266 : decode cX12_readDeeds 266 = .ok (.aload_n 2, 1) := by decide +kernel
theorem dX12_readDeeds_267 : decode cX12_readDeeds 267 = .ok (.getfield 216, 3) := by decide +kernel
theorem dX12_readDeeds_270 : decode cX12_readDeeds 270 = .ok (.iload 6, 2) := by decide +kernel
theorem dX12_readDeeds_272 : decode cX12_readDeeds 272 = .ok (.iaload, 1) := by decide +kernel
theorem dX12_readDeeds_273 : decode cX12_readDeeds 273 = .ok (.invokevirtual 219, 3) := by decide +kernel
theorem dX12_readDeeds_276 : decode cX12_readDeeds 276 = .ok (.goto 10, 3) := by decide +kernel
theorem dX12_readDeeds_279 : decode cX12_readDeeds 279 = .ok (.aload_n 0, 1) := by decide +kernel
theorem dX12_readDeeds_280 : decode cX12_readDeeds 280 = .ok (.iconst 1, 1) := by decide +kernel
theorem dX12_readDeeds_281 : decode cX12_readDeeds 281 = .ok (.bipush 9, 2) := by decide +kernel
theorem dX12_readDeeds_283 : decode cX12_readDeeds 283 = .ok (.invokevirtual 219, 3) := by decide +kernel
theorem dX12_readDeeds_286 : decode cX12_readDeeds 286 = .ok (.iastore, 1) := by decide +kernel
theorem dX12_readDeeds_287 : decode cX12_readDeeds 287 = .ok (.aload_n 2, 1) := by decide +kernel
theorem dX12_readDeeds_288 : decode cX12_readDeeds 288 = .ok (.getfield 237, 3) := by decide +kernel
theorem dX12_readDeeds_291 : decode cX12_readDeeds 291 = .ok (.iload_n 1, 1) := by decide +kernel
theorem dX12_readDeeds_292 : decode cX12_readDeeds 292 = .ok (.dup2, 1) := by decide +kernel
theorem dX12_readDeeds_293 : decode cX12_readDeeds 293 = .ok (.iaload, 1) := by decide +kernel
theorem dX12_readDeeds_294 : decode cX12_readDeeds 294 = .ok (.iconst 1, 1) := by decide +kernel
theorem dX12_readDeeds_295 : decode cX12_readDeeds 295 = .ok (.iadd, 1) := by decide +kernel
theorem dX12_readDeeds_296 : decode cX12_readDeeds 296 = .ok (.iastore, 1) := by decide +kernel
theorem dX12_readDeeds_297 : decode cX12_readDeeds 297 = .ok (.aload_n 0, 1) := by decide +kernel
theorem dX12_readDeeds_298 : decode cX12_readDeeds 298 = .ok (.bipush 44, 2) := by decide +kernel
theorem dX12_readDeeds_300 : decode cX12_readDeeds 300 = .ok (.invokevirtual 183, 3) := by decide +kernel
theorem dX12_readDeeds_303 : decode cX12_readDeeds 303 = .ok (.istore_n 3, 1) := by decide +kernel
theorem dX12_readDeeds_304 : decode cX12_readDeeds 304 = .ok (.iload_n 3, 1) := by decide +kernel
theorem dX12_readDeeds_305 : decode cX12_readDeeds 305 = .ok (.ifCond .eq 7, 3) := by decide +kernel
theorem dX12_readDeeds_308 : decode cX12_readDeeds 308 = .ok (.aload_n 0, 1) := by decide +kernel
theorem dX12_readDeeds_309 : decode cX12_readDeeds 309 = .ok (.invokevirtual 188, 3) := by decide +kernel
theorem dX12_readDeeds_312 : decode cX12_readDeeds 312 = .ok (.goto (-298), 3) := by decide +kernel
theorem dX12_readDeeds_315 : decode cX12_readDeeds 315 = .ok (.return_, 1) := by decide +kernel
theorem dX12_feed_0 : decode cX12_feed 0 = .ok (.aload_n 0, 1) := by decide +kernel
theorem dX12_feed_1 : decode cX12_feed 1 = .ok (.iconst 0, 1) := by decide +kernel
theorem dX12_feed_2 : decode cX12_feed 2 = .ok (.putfield 1, 3) := by decide +kernel
theorem dX12_feed_5 : decode cX12_feed 5 = .ok (.aload_n 0, 1) := by decide +kernel
theorem dX12_feed_6 : decode cX12_feed 6 = .ok (.getfield 313, 3) := by decide +kernel
theorem dX12_feed_9 : decode cX12_feed 9 = .ok (.bipush 20, 2) := by decide +kernel
theorem dX12_feed_11 : decode cX12_feed 11 = .ok (.iadd, 1) := by decide +kernel
theorem dX12_feed_12 : decode cX12_feed 12 = .ok (.sipush 800, 3) := by decide +kernel
theorem dX12_feed_15 : decode cX12_feed 15 = .ok (.if_icmp .le 5, 3) := by decide +kernel
theorem dX12_feed_18 : decode cX12_feed 18 = .ok (.iconst (-1), 1) := by decide +kernel
theorem dX12_feed_19 : decode cX12_feed 19 = .ok (.ireturn, 1) := by decide +kernel
theorem dX12_feed_20 : decode cX12_feed 20 = .ok (.iconst 0, 1) := by decide +kernel
theorem dX12_feed_21 : decode cX12_feed 21 = .ok (.istore 6, 2) := by decide +kernel
theorem dX12_feed_23 : decode cX12_feed 23 = .ok (.iload 6, 2) := by decide +kernel
theorem dX12_feed_25 : decode cX12_feed 25 = .ok (.bipush 20, 2) := by decide +kernel
theorem dX12_feed_27 : decode cX12_feed 27 = .ok (.if_icmp .ge 90, 3) := by decide +kernel
theorem dX12_feed_30 : decode cX12_feed 30 = .ok (.iload 6, 2) := by decide +kernel
theorem dX12_feed_32 : decode cX12_feed 32 = .ok (.iconst 4, 1) := by decide +kernel
theorem dX12_feed_33 : decode cX12_feed 33 = .ok (.if_icmp .ge 7, 3) := by decide +kernel
theorem dX12_feed_36 : decode cX12_feed 36 = .ok (.iload_n 1, 1) := by decide +kernel
theorem dX12_feed_37 : decode cX12_feed 37 = .ok (.goto 39, 3) := by decide +kernel
theorem dX12_feed_40 : decode cX12_feed 40 = .ok (.iload 6, 2) := by decide +kernel
theorem dX12_feed_42 : decode cX12_feed 42 = .ok (.bipush 8, 2) := by decide +kernel
theorem dX12_feed_44 : decode cX12_feed 44 = .ok (.if_icmp .ge 7, 3) := by decide +kernel
theorem dX12_feed_47 : decode cX12_feed 47 = .ok (.iload_n 2, 1) := by decide +kernel
theorem dX12_feed_48 : decode cX12_feed 48 = .ok (.goto 28, 3) := by decide +kernel
theorem dX12_feed_51 : decode cX12_feed 51 = .ok (.iload 6, 2) := by decide +kernel
theorem dX12_feed_53 : decode cX12_feed 53 = .ok (.bipush 12, 2) := by decide +kernel
theorem dX12_feed_55 : decode cX12_feed 55 = .ok (.if_icmp .ge 7, 3) := by decide +kernel
theorem dX12_feed_58 : decode cX12_feed 58 = .ok (.iload_n 3, 1) := by decide +kernel
theorem dX12_feed_59 : decode cX12_feed 59 = .ok (.goto 17, 3) := by decide +kernel
theorem dX12_feed_62 : decode cX12_feed 62 = .ok (.iload 6, 2) := by decide +kernel
theorem dX12_feed_64 : decode cX12_feed 64 = .ok (.bipush 16, 2) := by decide +kernel
theorem dX12_feed_66 : decode cX12_feed 66 = .ok (.if_icmp .ge 8, 3) := by decide +kernel
theorem dX12_feed_69 : decode cX12_feed 69 = .ok (.iload 4, 2) := by decide +kernel
theorem dX12_feed_71 : decode cX12_feed 71 = .ok (.goto 5, 3) := by decide +kernel
theorem dX12_feed_74 : decode cX12_feed 74 = .ok (.iload 5, 2) := by decide +kernel
theorem dX12_feed_76 : decode cX12_feed 76 = .ok (.istore 7, 2) := by decide +kernel
theorem dX12_feed_78 : decode cX12_feed 78 = .ok (.aload_n 0, 1) := by decide +kernel
theorem dX12_feed_79 : decode cX12_feed 79 = .ok (.getfield 48, 3) := by decide +kernel
theorem dX12_feed_82 : decode cX12_feed 82 = .ok (.aload_n 0, 1) := by decide +kernel
theorem dX12_feed_83 : decode cX12_feed 83 = .ok (.getfield 313, 3) := by decide +kernel
theorem dX12_feed_86 : decode cX12_feed 86 = .ok (.iload 7, 2) := by decide +kernel
theorem dX12_feed_88 : decode cX12_feed 88 = .ok (.bipush 24, 2) := by decide +kernel
theorem dX12_feed_90 : decode cX12_feed 90 = .ok (.bipush 8, 2) := by decide +kernel
theorem dX12_feed_92 : decode cX12_feed 92 = .ok (.iload 6, 2) := by decide +kernel
theorem dX12_feed_94 : decode cX12_feed 94 = .ok (.iconst 4, 1) := by decide +kernel
theorem dX12_feed_95 : decode cX12_feed 95 = .ok (.irem, 1) := by decide +kernel
theorem dX12_feed_96 : decode cX12_feed 96 = .ok (.imul, 1) := by decide +kernel
theorem dX12_feed_97 : decode cX12_feed 97 = .ok (.isub, 1) := by decide +kernel
theorem dX12_feed_98 : decode cX12_feed 98 = .ok (.ishr, 1) := by decide +kernel
theorem dX12_feed_99 : decode cX12_feed 99 = .ok (.i2b, 1) := by decide +kernel
theorem dX12_feed_100 : decode cX12_feed 100 = .ok (.bastore, 1) := by decide +kernel
theorem dX12_feed_101 : decode cX12_feed 101 = .ok (.aload_n 0, 1) := by decide +kernel
theorem dX12_feed_102 : decode cX12_feed 102 = .ok (.dup, 1) := by decide +kernel
theorem dX12_feed_103 : decode cX12_feed 103 = .ok (.getfield 313, 3) := by decide +kernel
theorem dX12_feed_106 : decode cX12_feed 106 = .ok (.iconst 1, 1) := by decide +kernel
theorem dX12_feed_107 : decode cX12_feed 107 = .ok (.iadd, 1) := by decide +kernel
theorem dX12_feed_108 : decode cX12_feed 108 = .ok (.putfield 313, 3) := by decide +kernel
theorem dX12_feed_111 : decode cX12_feed 111 = .ok (.iinc 6 1, 3) := by decide +kernel
theorem dX12_feed_114 : decode cX12_feed 114 = .ok (.goto (-91), 3) := by decide +kernel
theorem dX12_feed_117 : decode cX12_feed 117 = .ok (.aload_n 0, 1) := by decide +kernel
theorem dX12_feed_118 : decode cX12_feed 118 = .ok (.getfield 313, 3) := by decide +kernel
theorem dX12_feed_121 : decode cX12_feed 121 = .ok (.ireturn, 1) := by decide +kernel
theorem dX12_app_0 : decode cX12_app 0 = .ok (.aload_n 0, 1) := by decide +kernel
theorem dX12_app_1 : decode cX12_app 1 = .ok (.iconst 0, 1) := by decide +kernel
theorem dX12_app_2 : decode cX12_app 2 = .ok (.putfield 1, 3) := by decide +kernel
theorem dX12_app_5 : decode cX12_app 5 = .ok (.iload_n 1, 1) := by decide +kernel
theorem dX12_app_6 : decode cX12_app 6 = .ok (.ifCond .lt 8, 3) := by decide +kernel
theorem dX12_app_9 : decode cX12_app 9 = .ok (.iload_n 1, 1) := by decide +kernel
theorem dX12_app_10 : decode cX12_app 10 = .ok (.iconst 1, 1) := by decide +kernel
theorem dX12_app_11 : decode cX12_app 11 = .ok (.if_icmp .le 9, 3) := by decide +kernel
theorem dX12_app_14 : decode cX12_app 14 = .ok (.aload_n 0, 1) := by decide +kernel
