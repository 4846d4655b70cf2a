theorem dX7_second_22 : decode cX7_second 22 = .ok (.aload_n 0, 1) := by decide +kernel
theorem dX7_second_23 : decode cX7_second 23 = .ok (.getfield 10, 3) := by decide +kernel
theorem dX7_second_26 : decode cX7_second 26 = .ok (.invokevirtual 189, 3) := by decide +kernel
theorem dX7_second_29 : decode cX7_second 29 = .ok (.astore_n 2, 1) := by decide +kernel
theorem dX7_second_30 : decode cX7_second 30 = .ok (.aload_n 2, 1) := by decide +kernel
theorem dX7_second_31 : decode cX7_second 31 = .ok (.iload_n 1, 1) := by decide +kernel
theorem dX7_second_32 : decode cX7_second 32 = .ok (.invokevirtual 310, 3) := by decide +kernel
theorem dX7_second_35 : decode cX7_second 35 = .ok (.aload_n 2, 1) := by decide +kernel
theorem dX7_second_36 : decode cX7_second 36 = .ok (.invokevirtual 210, 3) := by decide +kernel
theorem dX7_second_39 : decode cX7_second 39 = .ok (.ireturn, 1) := by decide +kernel
theorem dX7_gap_0 : decode cX7_gap 0 = .ok (.aload_n 0, 1) := by decide +kernel
theorem dX7_gap_1 : decode cX7_gap 1 = .ok (.getfield 10, 3) := by decide +kernel
theorem dX7_gap_4 : decode cX7_gap 4 = .ok (.iload_n 1, 1) := by decide +kernel
theorem dX7_gap_5 : decode cX7_gap 5 = .ok (.invokevirtual 127, 3) := by decide +kernel
theorem dX7_gap_8 : decode cX7_gap 8 = .ok (.ifCond .ne 10, 3) := by decide +kernel
theorem dX7_gap_11 : decode cX7_gap 11 = .ok (.aload_n 0, 1) := by decide +kernel
theorem dX7_gap_12 : decode cX7_gap 12 = .ok (.bipush (-2), 2) := by decide +kernel
theorem dX7_gap_14 : decode cX7_gap 14 = .ok (.invokevirtual 77, 3) := by decide +kernel
theorem dX7_gap_17 : decode cX7_gap 17 = .ok (.ireturn, 1) := by decide +kernel
theorem dX7_gap_18 : decode cX7_gap 18 = .ok (.aload_n 0, 1) := by decide +kernel
theorem dX7_gap_19 : decode cX7_gap 19 = .ok (.getfield 22, 3) := by decide +kernel
theorem dX7_gap_22 : decode cX7_gap 22 = .ok (.aload_n 0, 1) := by decide +kernel
theorem dX7_gap_23 : decode cX7_gap 23 = .ok (.getfield 10, 3) := by decide +kernel
theorem dX7_gap_26 : decode cX7_gap 26 = .ok (.invokevirtual 189, 3) := by decide +kernel
theorem dX7_gap_29 : decode cX7_gap 29 = .ok (.astore_n 2, 1) := by decide +kernel
theorem dX7_gap_30 : decode cX7_gap 30 = .ok (.aload_n 0, 1) := by decide +kernel
theorem dX7_gap_31 : decode cX7_gap 31 = .ok (.getfield 10, 3) := by decide +kernel
theorem dX7_gap_34 : decode cX7_gap 34 = .ok (.getfield 165, 3) := by decide +kernel
theorem dX7_gap_37 : decode cX7_gap 37 = .ok (.iload_n 1, 1) := by decide +kernel
theorem dX7_gap_38 : decode cX7_gap 38 = .ok (.iaload, 1) := by decide +kernel
theorem dX7_gap_39 : decode cX7_gap 39 = .ok (.istore_n 3, 1) := by decide +kernel
theorem dX7_gap_40 : decode cX7_gap 40 = .ok (.iload_n 3, 1) := by decide +kernel
theorem dX7_gap_41 : decode cX7_gap 41 = .ok (.bipush 40, 2) := by decide +kernel
theorem dX7_gap_43 : decode cX7_gap 43 = .ok (.if_icmp .gt 36, 3) := by decide +kernel
theorem dX7_gap_46 : decode cX7_gap 46 = .ok (.aload_n 2, 1) := by decide +kernel
theorem dX7_gap_47 : decode cX7_gap 47 = .ok (.getfield 165, 3) := by decide +kernel
theorem dX7_gap_50 : decode cX7_gap 50 = .ok (.iload_n 1, 1) := by decide +kernel
theorem dX7_gap_51 : decode cX7_gap 51 = .ok (.iload_n 3, 1) := by decide +kernel
theorem dX7_gap_52 : decode cX7_gap 52 = .ok (.iastore, 1) := by decide +kernel
theorem dX7_gap_53 : decode cX7_gap 53 = .ok (.aload_n 2, 1) := by decide +kernel
theorem dX7_gap_54 : decode cX7_gap 54 = .ok (.invokevirtual 210, 3) := by decide +kernel
theorem dX7_gap_57 : decode cX7_gap 57 = .ok (.iload_n 1, 1) := by decide +kernel
theorem dX7_gap_58 : decode cX7_gap 58 = .ok (.if_icmp .eq 15, 3) := by decide +kernel
theorem dX7_gap_61 : decode cX7_gap 61 = .ok (.iload_n 3, 1) := by decide +kernel
theorem dX7_gap_62 : decode cX7_gap 62 = .ok (.aload_n 0, 1) := by decide +kernel
theorem dX7_gap_63 : decode cX7_gap 63 = .ok (.getfield 10, 3) := by decide +kernel
theorem dX7_gap_66 : decode cX7_gap 66 = .ok (.getfield 165, 3) := by decide +kernel
theorem dX7_gap_69 : decode cX7_gap 69 = .ok (.iload_n 1, 1) := by decide +kernel
theorem dX7_gap_70 : decode cX7_gap 70 = .ok (.iaload, 1) := by decide +kernel
theorem dX7_gap_71 : decode cX7_gap 71 = .ok (.isub, 1) := by decide +kernel
theorem dX7_gap_72 : decode cX7_gap 72 = .ok (.ireturn, 1) := by decide +kernel
theorem dX7_gap_73 : decode cX7_gap 73 = .ok (.iinc 3 1, 3) := by decide +kernel
theorem dX7_gap_76 : decode cX7_gap 76 = .ok (.goto (-36), 3) := by decide +kernel
theorem dX7_gap_79 : decode cX7_gap 79 = .ok (.iconst (-1), 1) := by decide +kernel
theorem dX7_gap_80 : decode cX7_gap 80 = .ok (.ireturn, 1) := by decide +kernel
theorem dX7_bites_0 : decode cX7_bites 0 = .ok (.aload_n 0, 1) := by decide +kernel
theorem dX7_bites_1 : decode cX7_bites 1 = .ok (.getfield 10, 3) := by decide +kernel
theorem dX7_bites_4 : decode cX7_bites 4 = .ok (.iload_n 1, 1) := by decide +kernel
theorem dX7_bites_5 : decode cX7_bites 5 = .ok (.invokevirtual 127, 3) := by decide +kernel
theorem dX7_bites_8 : decode cX7_bites 8 = .ok (.ifCond .ne 10, 3) := by decide +kernel
theorem dX7_bites_11 : decode cX7_bites 11 = .ok (.aload_n 0, 1) := by decide +kernel
theorem dX7_bites_12 : decode cX7_bites 12 = .ok (.bipush (-2), 2) := by decide +kernel
theorem dX7_bites_14 : decode cX7_bites 14 = .ok (.invokevirtual 77, 3) := by decide +kernel
theorem dX7_bites_17 : decode cX7_bites 17 = .ok (.ireturn, 1) := by decide +kernel
theorem dX7_bites_18 : decode cX7_bites 18 = .ok (.aload_n 0, 1) := by decide +kernel
theorem dX7_bites_19 : decode cX7_bites 19 = .ok (.getfield 22, 3) := by decide +kernel
theorem dX7_bites_22 : decode cX7_bites 22 = .ok (.aload_n 0, 1) := by decide +kernel
theorem dX7_bites_23 : decode cX7_bites 23 = .ok (.getfield 10, 3) := by decide +kernel
theorem dX7_bites_26 : decode cX7_bites 26 = .ok (.invokevirtual 189, 3) := by decide +kernel
theorem dX7_bites_29 : decode cX7_bites 29 = .ok (.astore_n 2, 1) := by decide +kernel
theorem dX7_bites_30 : decode cX7_bites 30 = .ok (.bipush 40, 2) := by decide +kernel
theorem dX7_bites_32 : decode cX7_bites 32 = .ok (.istore_n 3, 1) := by decide +kernel
theorem dX7_bites_33 : decode cX7_bites 33 = .ok (.iload_n 3, 1) := by decide +kernel
theorem dX7_bites_34 : decode cX7_bites 34 = .ok (.ifCond .lt 24, 3) := by decide +kernel
theorem dX7_bites_37 : decode cX7_bites 37 = .ok (.aload_n 2, 1) := by decide +kernel
theorem dX7_bites_38 : decode cX7_bites 38 = .ok (.iload_n 3, 1) := by decide +kernel
theorem dX7_bites_39 : decode cX7_bites 39 = .ok (.putfield 228, 3) := by decide +kernel
theorem dX7_bites_42 : decode cX7_bites 42 = .ok (.aload_n 2, 1) := by decide +kernel
theorem dX7_bites_43 : decode cX7_bites 43 = .ok (.iload_n 1, 1) := by decide +kernel
theorem dX7_bites_44 : decode cX7_bites 44 = .ok (.invokevirtual 207, 3) := by decide +kernel
theorem dX7_bites_47 : decode cX7_bites 47 = .ok (.ifCond .eq 5, 3) := by decide +kernel
theorem dX7_bites_50 : decode cX7_bites 50 = .ok (.iload_n 3, 1) := by decide +kernel
theorem dX7_bites_51 : decode cX7_bites 51 = .ok (.ireturn, 1) := by decide +kernel
theorem dX7_bites_52 : decode cX7_bites 52 = .ok (.iinc 3 (-1), 3) := by decide +kernel
theorem dX7_bites_55 : decode cX7_bites 55 = .ok (.goto (-22), 3) := by decide +kernel
theorem dX7_bites_58 : decode cX7_bites 58 = .ok (.iconst (-1), 1) := by decide +kernel
theorem dX7_bites_59 : decode cX7_bites 59 = .ok (.ireturn, 1) := by decide +kernel
theorem dX7_all_0 : decode cX7_all 0 = .ok (.iload_n 1, 1) := by decide +kernel
theorem dX7_all_1 : decode cX7_all 1 = .ok (.bipush 60, 2) := by decide +kernel
theorem dX7_all_3 : decode cX7_all 3 = .ok (.invokestatic 73, 3) := by decide +kernel
theorem dX7_all_6 : decode cX7_all 6 = .ok (.ifCond .eq 18, 3) := by decide +kernel
theorem dX7_all_9 : decode cX7_all 9 = .ok (.aload_n 0, 1) := by decide +kernel
theorem dX7_all_10 : decode cX7_all 10 = .ok (.getfield 22, 3) := by decide +kernel
theorem dX7_all_13 : decode cX7_all 13 = .ok (.aload_n 0, 1) := by decide +kernel
theorem dX7_all_14 : decode cX7_all 14 = .ok (.getfield 10, 3) := by decide +kernel
theorem dX7_all_17 : decode cX7_all 17 = .ok (.iload_n 1, 1) := by decide +kernel
theorem dX7_all_18 : decode cX7_all 18 = .ok (.invokevirtual 313, 3) := by decide +kernel
theorem dX7_all_21 : decode cX7_all 21 = .ok (.goto 9, 3) := by decide +kernel
theorem dX7_all_24 : decode cX7_all 24 = .ok (.aload_n 0, 1) := by decide +kernel
theorem dX7_all_25 : decode cX7_all 25 = .ok (.bipush (-2), 2) := by decide +kernel
theorem dX7_all_27 : decode cX7_all 27 = .ok (.invokevirtual 77, 3) := by decide +kernel
theorem dX7_all_30 : decode cX7_all 30 = .ok (.ireturn, 1) := by decide +kernel
theorem dX7_ofKind_0 : decode cX7_ofKind 0 = .ok (.iload_n 1, 1) := by decide +kernel
theorem dX7_ofKind_1 : decode cX7_ofKind 1 = .ok (.invokestatic 134, 3) := by decide +kernel
theorem dX7_ofKind_4 : decode cX7_ofKind 4 = .ok (.ifCond .eq 14, 3) := by decide +kernel
theorem dX7_ofKind_7 : decode cX7_ofKind 7 = .ok (.aload_n 0, 1) := by decide +kernel
theorem dX7_ofKind_8 : decode cX7_ofKind 8 = .ok (.getfield 10, 3) := by decide +kernel
theorem dX7_ofKind_11 : decode cX7_ofKind 11 = .ok (.iload_n 1, 1) := by decide +kernel
theorem dX7_ofKind_12 : decode cX7_ofKind 12 = .ok (.invokevirtual 316, 3) := by decide +kernel
theorem dX7_ofKind_15 : decode cX7_ofKind 15 = .ok (.goto 9, 3) := by decide +kernel
theorem dX7_ofKind_18 : decode cX7_ofKind 18 = .ok (.aload_n 0, 1) := by decide +kernel
theorem dX7_ofKind_19 : decode cX7_ofKind 19 = .ok (.bipush (-2), 2) := by decide +kernel
theorem dX7_ofKind_21 : decode cX7_ofKind 21 = .ok (.invokevirtual 77, 3) := by decide +kernel
theorem dX7_ofKind_24 : decode cX7_ofKind 24 = .ok (.ireturn, 1) := by decide +kernel
theorem dX7_judge_0 : decode cX7_judge 0 = .ok (.iload_n 2, 1) := by decide +kernel
theorem dX7_judge_1 : decode cX7_judge 1 = .ok (.bipush 40, 2) := by decide +kernel
theorem dX7_judge_3 : decode cX7_judge 3 = .ok (.invokestatic 73, 3) := by decide +kernel
theorem dX7_judge_6 : decode cX7_judge 6 = .ok (.ifCond .eq 12, 3) := by decide +kernel
theorem dX7_judge_9 : decode cX7_judge 9 = .ok (.aload_n 0, 1) := by decide +kernel
theorem dX7_judge_10 : decode cX7_judge 10 = .ok (.iload_n 1, 1) := by decide +kernel
theorem dX7_judge_11 : decode cX7_judge 11 = .ok (.iload_n 2, 1) := by decide +kernel
theorem dX7_judge_12 : decode cX7_judge 12 = .ok (.invokevirtual 85, 3) := by decide +kernel
theorem dX7_judge_15 : decode cX7_judge 15 = .ok (.goto 5, 3) := by decide +kernel
theorem dX7_judge_18 : decode cX7_judge 18 = .ok (.bipush (-2), 2) := by decide +kernel
theorem dX7_judge_20 : decode cX7_judge 20 = .ok (.istore_n 3, 1) := by decide +kernel
theorem dX7_judge_21 : decode cX7_judge 21 = .ok (.iload_n 3, 1) := by decide +kernel
theorem dX7_judge_22 : decode cX7_judge 22 = .ok (.ifCond .eq 11, 3) := by decide +kernel
theorem dX7_judge_25 : decode cX7_judge 25 = .ok (.aload_n 0, 1) := by decide +kernel
theorem dX7_judge_26 : decode cX7_judge 26 = .ok (.iload_n 3, 1) := by decide +kernel
theorem dX7_judge_27 : decode cX7_judge 27 = .ok (.invokevirtual 77, 3) := by decide +kernel
theorem dX7_judge_30 : decode cX7_judge 30 = .ok (.goto 21, 3) := by decide +kernel
theorem dX7_judge_33 : decode cX7_judge 33 = .ok (.aload_n 0, 1) := by decide +kernel
theorem dX7_judge_34 : decode cX7_judge 34 = .ok (.getfield 22, 3) := by decide +kernel
theorem dX7_judge_37 : decode cX7_judge 37 = .ok (.aload_n 0, 1) := by decide +kernel
theorem dX7_judge_38 : decode cX7_judge 38 = .ok (.getfield 10, 3) := by decide +kernel
theorem dX7_judge_41 : decode cX7_judge 41 = .ok (.aload_n 0, 1) := by decide +kernel
theorem dX7_judge_42 : decode cX7_judge 42 = .ok (.getfield 56, 3) := by decide +kernel
theorem dX7_judge_45 : decode cX7_judge 45 = .ok (.iload_n 1, 1) := by decide +kernel
theorem dX7_judge_46 : decode cX7_judge 46 = .ok (.aaload, 1) := by decide +kernel
theorem dX7_judge_47 : decode cX7_judge 47 = .ok (.iload_n 2, 1) := by decide +kernel
theorem dX7_judge_48 : decode cX7_judge 48 = .ok (.invokevirtual 319, 3) := by decide +kernel
theorem dX7_judge_51 : decode cX7_judge 51 = .ok (.ireturn, 1) := by decide +kernel
theorem dX7_days_0 : decode cX7_days 0 = .ok (.iload_n 1, 1) := by decide +kernel
theorem dX7_days_1 : decode cX7_days 1 = .ok (.iconst 1, 1) := by decide +kernel
theorem dX7_days_2 : decode cX7_days 2 = .ok (.if_icmp .lt 9, 3) := by decide +kernel
theorem dX7_days_5 : decode cX7_days 5 = .ok (.iload_n 1, 1) := by decide +kernel
theorem dX7_days_6 : decode cX7_days 6 = .ok (.bipush 60, 2) := by decide +kernel
theorem dX7_days_8 : decode cX7_days 8 = .ok (.if_icmp .le 10, 3) := by decide +kernel
theorem dX7_days_11 : decode cX7_days 11 = .ok (.aload_n 0, 1) := by decide +kernel
theorem dX7_days_12 : decode cX7_days 12 = .ok (.bipush (-2), 2) := by decide +kernel
theorem dX7_days_14 : decode cX7_days 14 = .ok (.invokevirtual 77, 3) := by decide +kernel
theorem dX7_days_17 : decode cX7_days 17 = .ok (.ireturn, 1) := by decide +kernel
theorem dX7_days_18 : decode cX7_days 18 = .ok (.iconst 0, 1) := by decide +kernel
theorem dX7_days_19 : decode cX7_days 19 = .ok (.istore_n 2, 1) := by decide +kernel
theorem dX7_days_20 : decode cX7_days 20 = .ok (.iload_n 2, 1) := by decide +kernel
theorem dX7_days_21 : decode cX7_days 21 = .ok (.iload_n 1, 1) := by decide +kernel
theorem dX7_days_22 : decode cX7_days 22 = .ok (.if_icmp .ge 16, 3) := by decide +kernel
theorem dX7_days_25 : decode cX7_days 25 = .ok (.aload_n 0, 1) := by decide +kernel
theorem dX7_days_26 : decode cX7_days 26 = .ok (.getfield 10, 3) := by decide +kernel
theorem dX7_days_29 : decode cX7_days 29 = .ok (.invokevirtual 323, 3) := by decide +kernel
theorem dX7_days_32 : decode cX7_days 32 = .ok (.iinc 2 1, 3) := by decide +kernel
theorem dX7_days_35 : decode cX7_days 35 = .ok (.goto (-15), 3) := by decide +kernel
theorem dX7_days_38 : decode cX7_days 38 = .ok (.aload_n 0, 1) := by decide +kernel
theorem dX7_days_39 : decode cX7_days 39 = .ok (.getfield 10, 3) := by decide +kernel
theorem dX7_days_42 : decode cX7_days 42 = .ok (.getfield 174, 3) := by decide +kernel
theorem dX7_days_45 : decode cX7_days 45 = .ok (.ireturn, 1) := by decide +kernel
theorem dX7_drawn_0 : decode cX7_drawn 0 = .ok (.iload_n 1, 1) := by decide +kernel
theorem dX7_drawn_1 : decode cX7_drawn 1 = .ok (.iconst 1, 1) := by decide +kernel
theorem dX7_drawn_2 : decode cX7_drawn 2 = .ok (.if_icmp .lt 9, 3) := by decide +kernel
theorem dX7_drawn_5 : decode cX7_drawn 5 = .ok (.iload_n 1, 1) := by decide +kernel
theorem dX7_drawn_6 : decode cX7_drawn 6 = .ok (.bipush 60, 2) := by decide +kernel
theorem dX7_drawn_8 : decode cX7_drawn 8 = .ok (.if_icmp .le 10, 3) := by decide +kernel
theorem dX7_drawn_11 : decode cX7_drawn 11 = .ok (.aload_n 0, 1) := by decide +kernel
theorem dX7_drawn_12 : decode cX7_drawn 12 = .ok (.bipush (-2), 2) := by decide +kernel
theorem dX7_drawn_14 : decode cX7_drawn 14 = .ok (.invokevirtual 77, 3) := by decide +kernel
theorem dX7_drawn_17 : decode cX7_drawn 17 = .ok (.ireturn, 1) := by decide +kernel
theorem dX7_drawn_18 : decode cX7_drawn 18 = .ok (.iconst 0, 1) := by decide +kernel
theorem dX7_drawn_19 : decode cX7_drawn 19 = .ok (.istore_n 2, 1) := by decide +kernel
theorem dX7_drawn_20 : decode cX7_drawn 20 = .ok (.iconst 0, 1) := by decide +kernel
theorem dX7_drawn_21 : decode cX7_drawn 21 = .ok (.istore_n 3, 1) := by decide +kernel
theorem dX7_drawn_22 : decode cX7_drawn 22 = .ok (.iload_n 3, 1) := by decide +kernel
theorem dX7_drawn_23 : decode cX7_drawn 23 = .ok (.iload_n 1, 1) := by decide +kernel
theorem dX7_drawn_24 : decode cX7_drawn 24 = .ok (.if_icmp .ge 68, 3) := by decide +kernel
theorem dX7_drawn_27 : decode cX7_drawn 27 = .ok (.aload_n 0, 1) := by decide +kernel
theorem dX7_drawn_28 : decode cX7_drawn 28 = .ok (.getfield 10, 3) := by decide +kernel
theorem dX7_drawn_31 : decode cX7_drawn 31 = .ok (.aload_n 0, 1) := by decide +kernel
theorem dX7_drawn_32 : decode cX7_drawn 32 = .ok (.getfield 10, 3) := by decide +kernel
theorem dX7_drawn_35 : decode cX7_drawn 35 = .ok (.iconst 4, 1) := by decide +kernel
theorem dX7_drawn_36 : decode cX7_drawn 36 = .ok (.invokevirtual 326, 3) := by decide +kernel
theorem dX7_drawn_39 : decode cX7_drawn 39 = .ok (.putfield 298, 3) := by decide +kernel
theorem dX7_drawn_42 : decode cX7_drawn 42 = .ok (.aload_n 0, 1) := by decide +kernel
theorem dX7_drawn_43 : decode cX7_drawn 43 = .ok (.getfield 10, 3) := by decide +kernel
theorem dX7_drawn_46 : decode cX7_drawn 46 = .ok (.aload_n 0, 1) := by decide +kernel
theorem dX7_drawn_47 : decode cX7_drawn 47 = .ok (.getfield 10, 3) := by decide +kernel
theorem dX7_drawn_50 : decode cX7_drawn 50 = .ok (.aload_n 0, 1) := by decide +kernel
theorem dX7_drawn_51 : decode cX7_drawn 51 = .ok (.getfield 10, 3) := by decide +kernel
theorem dX7_drawn_54 : decode cX7_drawn 54 = .ok (.getfield 213, 3) := by decide +kernel
theorem dX7_drawn_57 : decode cX7_drawn 57 = .ok (.iconst 1, 1) := by decide +kernel
theorem dX7_drawn_58 : decode cX7_drawn 58 = .ok (.iadd, 1) := by decide +kernel
theorem dX7_drawn_59 : decode cX7_drawn 59 = .ok (.invokevirtual 326, 3) := by decide +kernel
theorem dX7_drawn_62 : decode cX7_drawn 62 = .ok (.iconst 1, 1) := by decide +kernel
theorem dX7_drawn_63 : decode cX7_drawn 63 = .ok (.invokevirtual 329, 3) := by decide +kernel
theorem dX7_drawn_66 : decode cX7_drawn 66 = .ok (.iload_n 2, 1) := by decide +kernel
theorem dX7_drawn_67 : decode cX7_drawn 67 = .ok (.aload_n 0, 1) := by decide +kernel
theorem dX7_drawn_68 : decode cX7_drawn 68 = .ok (.getfield 10, 3) := by decide +kernel
theorem dX7_drawn_71 : decode cX7_drawn 71 = .ok (.invokevirtual 216, 3) := by decide +kernel
theorem dX7_drawn_74 : decode cX7_drawn 74 = .ok (.invokestatic 177, 3) := by decide +kernel
theorem dX7_drawn_77 : decode cX7_drawn 77 = .ok (.iadd, 1) := by decide +kernel
theorem dX7_drawn_78 : decode cX7_drawn 78 = .ok (.istore_n 2, 1) := by decide +kernel
theorem dX7_drawn_79 : decode cX7_drawn 79 = .ok (.aload_n 0, 1) := by decide +kernel
theorem dX7_drawn_80 : decode cX7_drawn 80 = .ok (.getfield 10, 3) := by decide +kernel
theorem dX7_drawn_83 : decode cX7_drawn 83 = .ok (.invokevirtual 323, 3) := by decide +kernel
theorem dX7_drawn_86 : decode cX7_drawn 86 = .ok (.iinc 3 1, 3) := by decide +kernel
theorem dX7_drawn_89 : decode cX7_drawn 89 = .ok (.goto (-67), 3) := by decide +kernel
theorem dX7_drawn_92 : decode cX7_drawn 92 = .ok (.iload_n 2, 1) := by decide +kernel
theorem dX7_drawn_93 : decode cX7_drawn 93 = .ok (.ireturn, 1) := by decide +kernel
theorem dX7_seed_0 : decode cX7_seed 0 = .ok (.aload_n 0, 1) := by decide +kernel
theorem dX7_seed_1 : decode cX7_seed 1 = .ok (.getfield 10, 3) := by decide +kernel
theorem dX7_seed_4 : decode cX7_seed 4 = .ok (.getfield 332, 3) := by decide +kernel
theorem dX7_seed_7 : decode cX7_seed 7 = .ok (.istore_n 2, 1) := by decide +kernel
theorem dX7_seed_8 : decode cX7_seed 8 = .ok (.aload_n 0, 1) := by decide +kernel
theorem dX7_seed_9 : decode cX7_seed 9 = .ok (.getfield 10, 3) := by decide +kernel
theorem dX7_seed_12 : decode cX7_seed 12 = .ok (.iload_n 1, 1) := by decide +kernel
theorem dX7_seed_13 : decode cX7_seed 13 = .ok (.putfield 332, 3) := by decide +kernel
theorem dX7_seed_16 : decode cX7_seed 16 = .ok (.iload_n 2, 1) := by decide +kernel
theorem dX7_seed_17 : decode cX7_seed 17 = .ok (.ireturn, 1) := by decide +kernel
theorem dX7_image_0 : decode cX7_image 0 = .ok (.aload_n 0, 1) := by decide +kernel
theorem dX7_image_1 : decode cX7_image 1 = .ok (.getfield 16, 3) := by decide +kernel
theorem dX7_image_4 : decode cX7_image 4 = .ok (.aload_n 0, 1) := by decide +kernel
theorem dX7_image_5 : decode cX7_image 5 = .ok (.getfield 10, 3) := by decide +kernel
theorem dX7_image_8 : decode cX7_image 8 = .ok (.invokevirtual 197, 3) := by decide +kernel
theorem dX7_image_11 : decode cX7_image 11 = .ok (.aload_n 0, 1) := by decide +kernel
theorem dX7_image_12 : decode cX7_image 12 = .ok (.iconst 1, 1) := by decide +kernel
theorem dX7_image_13 : decode cX7_image 13 = .ok (.putfield 64, 3) := by decide +kernel
theorem dX7_image_16 : decode cX7_image 16 = .ok (.iconst 1, 1) := by decide +kernel
theorem dX7_image_17 : decode cX7_image 17 = .ok (.ireturn, 1) := by decide +kernel
theorem dX7_back_0 : decode cX7_back 0 = .ok (.aload_n 0, 1) := by decide +kernel
theorem dX7_back_1 : decode cX7_back 1 = .ok (.getfield 64, 3) := by decide +kernel
theorem dX7_back_4 : decode cX7_back 4 = .ok (.ifCond .ne 10, 3) := by decide +kernel
theorem dX7_back_7 : decode cX7_back 7 = .ok (.aload_n 0, 1) := by decide +kernel
theorem dX7_back_8 : decode cX7_back 8 = .ok (.bipush (-5), 2) := by decide +kernel
theorem dX7_back_10 : decode cX7_back 10 = .ok (.invokevirtual 77, 3) := by decide +kernel
theorem dX7_back_13 : decode cX7_back 13 = .ok (.ireturn, 1) := by decide +kernel
theorem dX7_back_14 : decode cX7_back 14 = .ok (.aload_n 0, 1) := by decide +kernel
theorem dX7_back_15 : decode cX7_back 15 = .ok (.getfield 10, 3) := by decide +kernel
theorem dX7_back_18 : decode cX7_back 18 = .ok (.aload_n 0, 1) := by decide +kernel
theorem dX7_back_19 : decode cX7_back 19 = .ok (.getfield 16, 3) := by decide +kernel
theorem dX7_back_22 : decode cX7_back 22 = .ok (.invokevirtual 197, 3) := by decide +kernel
theorem dX7_back_25 : decode cX7_back 25 = .ok (.iconst 0, 1) := by decide +kernel
theorem dX7_back_26 : decode cX7_back 26 = .ok (.istore_n 1, 1) := by decide +kernel
theorem dX7_back_27 : decode cX7_back 27 = .ok (.iload_n 1, 1) := by decide +kernel
theorem dX7_back_28 : decode cX7_back 28 = .ok (.bipush 8, 2) := by decide +kernel
theorem dX7_back_30 : decode cX7_back 30 = .ok (.if_icmp .ge 50, 3) := by decide +kernel
theorem dX7_back_33 : decode cX7_back 33 = .ok (.aload_n 0, 1) := by decide +kernel
theorem dX7_back_34 : decode cX7_back 34 = .ok (.getfield 56, 3) := by decide +kernel
theorem dX7_back_37 : decode cX7_back 37 = .ok (.iload_n 1, 1) := by decide +kernel
theorem dX7_back_38 : decode cX7_back 38 = .ok (.aaload, 1) := by decide +kernel
theorem dX7_back_39 : decode cX7_back 39 = .ok (.invokevirtual 96, 3) := by decide +kernel
theorem dX7_back_42 : decode cX7_back 42 = .ok (.ifCond .eq 32, 3) := by decide +kernel
theorem dX7_back_45 : decode cX7_back 45 = .ok (.aload_n 0, 1) := by decide +kernel
theorem dX7_back_46 : decode cX7_back 46 = .ok (.getfield 10, 3) := by decide +kernel
theorem dX7_back_49 : decode cX7_back 49 = .ok (.aload_n 0, 1) := by decide +kernel
theorem dX7_back_50 : decode cX7_back 50 = .ok (.getfield 56, 3) := by decide +kernel
theorem dX7_back_53 : decode cX7_back 53 = .ok (.iload_n 1, 1) := by decide +kernel
theorem dX7_back_54 : decode cX7_back 54 = .ok (.aaload, 1) := by decide +kernel
theorem dX7_back_55 : decode cX7_back 55 = .ok (.getfield 124, 3) := by decide +kernel
theorem dX7_back_58 : decode cX7_back 58 = .ok (.invokevirtual 127, 3) := by decide +kernel
theorem dX7_back_61 : decode cX7_back 61 = .ok (.ifCond .ne 13, 3) := by decide +kernel
theorem dX7_back_64 : decode cX7_back 64 = .ok (.aload_n 0, 1) := by decide +kernel
theorem dX7_back_65 : decode cX7_back 65 = .ok (.getfield 56, 3) := by decide +kernel
theorem dX7_back_68 : decode cX7_back 68 = .ok (.iload_n 1, 1) := by decide +kernel
theorem dX7_back_69 : decode cX7_back 69 = .ok (.aaload, 1) := by decide +kernel
theorem dX7_back_70 : decode cX7_back 70 = .ok (.iconst (-1), 1) := by decide +kernel
theorem dX7_back_71 : decode cX7_back 71 = .ok (.invokevirtual 130, 3) := by decide +kernel
theorem dX7_back_74 : decode cX7_back 74 = .ok (.iinc 1 1, 3) := by decide +kernel
theorem dX7_back_77 : decode cX7_back 77 = .ok (.goto (-50), 3) := by decide +kernel
theorem dX7_back_80 : decode cX7_back 80 = .ok (.iconst 1, 1) := by decide +kernel
theorem dX7_back_81 : decode cX7_back 81 = .ok (.ireturn, 1) := by decide +kernel
theorem dX7_status_0 : decode cX7_status 0 = .ok (.iload_n 1, 1) := by decide +kernel
theorem dX7_status_1 : decode cX7_status 1 = .ok (.tableswitch 132 0 9 #[55, 63, 71, 79, 87, 95, 103, 111, 119, 127], 55) := by decide +kernel
theorem dX7_status_56 : decode cX7_status 56 = .ok (.aload_n 0, 1) := by decide +kernel
theorem dX7_status_57 : decode cX7_status 57 = .ok (.getfield 10, 3) := by decide +kernel
theorem dX7_status_60 : decode cX7_status 60 = .ok (.getfield 213, 3) := by decide +kernel
theorem dX7_status_63 : decode cX7_status 63 = .ok (.ireturn, 1) := by decide +kernel
theorem dX7_status_64 : decode cX7_status 64 = .ok (.aload_n 0, 1) := by decide +kernel
theorem dX7_status_65 : decode cX7_status 65 = .ok (.getfield 10, 3) := by decide +kernel
theorem dX7_status_68 : decode cX7_status 68 = .ok (.getfield 228, 3) := by decide +kernel
theorem dX7_status_71 : decode cX7_status 71 = .ok (.ireturn, 1) := by decide +kernel
theorem dX7_status_72 : decode cX7_status 72 = .ok (.aload_n 0, 1) := by decide +kernel
theorem dX7_status_73 : decode cX7_status 73 = .ok (.getfield 10, 3) := by decide +kernel
theorem dX7_status_76 : decode cX7_status 76 = .ok (.getfield 298, 3) := by decide +kernel
theorem dX7_status_79 : decode cX7_status 79 = .ok (.ireturn, 1) := by decide +kernel
theorem dX7_status_80 : decode cX7_status 80 = .ok (.aload_n 0, 1) := by decide +kernel
theorem dX7_status_81 : decode cX7_status 81 = .ok (.getfield 10, 3) := by decide +kernel
theorem dX7_status_84 : decode cX7_status 84 = .ok (.getfield 335, 3) := by decide +kernel
theorem dX7_status_87 : decode cX7_status 87 = .ok (.ireturn, 1) := by decide +kernel
theorem dX7_status_88 : decode cX7_status 88 = .ok (.aload_n 0, 1) := by decide +kernel
theorem dX7_status_89 : decode cX7_status 89 = .ok (.getfield 10, 3) := by decide +kernel
theorem dX7_status_92 : decode cX7_status 92 = .ok (.getfield 238, 3) := by decide +kernel
theorem dX7_status_95 : decode cX7_status 95 = .ok (.ireturn, 1) := by decide +kernel
theorem dX7_status_96 : decode cX7_status 96 = .ok (.aload_n 0, 1) := by decide +kernel
theorem dX7_status_97 : decode cX7_status 97 = .ok (.getfield 10, 3) := by decide +kernel
theorem dX7_status_100 : decode cX7_status 100 = .ok (.getfield 174, 3) := by decide +kernel
theorem dX7_status_103 : decode cX7_status 103 = .ok (.ireturn, 1) := by decide +kernel
theorem dX7_status_104 : decode cX7_status 104 = .ok (.aload_n 0, 1) := by decide +kernel
theorem dX7_status_105 : decode cX7_status 105 = .ok (.getfield 10, 3) := by decide +kernel
theorem dX7_status_108 : decode cX7_status 108 = .ok (.invokevirtual 338, 3) := by decide +kernel
theorem dX7_status_111 : decode cX7_status 111 = .ok (.ireturn, 1) := by decide +kernel
theorem dX7_status_112 : decode cX7_status 112 = .ok (.aload_n 0, 1) := by decide +kernel
theorem dX7_status_113 : decode cX7_status 113 = .ok (.getfield 50, 3) := by decide +kernel
theorem dX7_status_116 : decode cX7_status 116 = .ok (.getfield 341, 3) := by decide +kernel
theorem dX7_status_119 : decode cX7_status 119 = .ok (.ireturn, 1) := by decide +kernel
theorem dX7_status_120 : decode cX7_status 120 = .ok (.aload_n 0, 1) := by decide +kernel
theorem dX7_status_121 : decode cX7_status 121 = .ok (.getfield 10, 3) := by decide +kernel
theorem dX7_status_124 : decode cX7_status 124 = .ok (.getfield 332, 3) := by decide +kernel
theorem dX7_status_127 : decode cX7_status 127 = .ok (.ireturn, 1) := by decide +kernel
theorem dX7_status_128 : decode cX7_status 128 = .ok (.aload_n 0, 1) := by decide +kernel
theorem dX7_status_129 : decode cX7_status 129 = .ok (.invokevirtual 344, 3) := by decide +kernel
theorem dX7_status_132 : decode cX7_status 132 = .ok (.ireturn, 1) := by decide +kernel
theorem dX7_status_133 : decode cX7_status 133 = .ok (.iload_n 1, 1) := by decide +kernel
theorem dX7_status_134 : decode cX7_status 134 = .ok (.bipush 12, 2) := by decide +kernel
theorem dX7_status_136 : decode cX7_status 136 = .ok (.isub, 1) := by decide +kernel
theorem dX7_status_137 : decode cX7_status 137 = .ok (.iconst 4, 1) := by decide +kernel
theorem dX7_status_138 : decode cX7_status 138 = .ok (.invokestatic 73, 3) := by decide +kernel
theorem dX7_status_141 : decode cX7_status 141 = .ok (.ifCond .eq 15, 3) := by decide +kernel
theorem dX7_status_144 : decode cX7_status 144 = .ok (.aload_n 0, 1) := by decide +kernel
theorem dX7_status_145 : decode cX7_status 145 = .ok (.getfield 60, 3) := by decide +kernel
theorem dX7_status_148 : decode cX7_status 148 = .ok (.iload_n 1, 1) := by decide +kernel
theorem dX7_status_149 : decode cX7_status 149 = .ok (.bipush 12, 2) := by decide +kernel
theorem dX7_status_151 : decode cX7_status 151 = .ok (.isub, 1) := by decide +kernel
theorem dX7_status_152 : decode cX7_status 152 = .ok (.iaload, 1) := by decide +kernel
theorem dX7_status_153 : decode cX7_status 153 = .ok (.goto 4, 3) := by decide +kernel
theorem dX7_status_156 : decode cX7_status 156 = .ok (.iconst (-1), 1) := by decide +kernel
theorem dX7_status_157 : decode cX7_status 157 = .ok (.ireturn, 1) := by decide +kernel
theorem dX7_refuse_0 : decode cX7_refuse 0 = .ok (.bipush (-2), 2) := by decide +kernel
theorem dX7_refuse_2 : decode cX7_refuse 2 = .ok (.iload_n 1, 1) := by decide +kernel
theorem dX7_refuse_3 : decode cX7_refuse 3 = .ok (.isub, 1) := by decide +kernel
theorem dX7_refuse_4 : decode cX7_refuse 4 = .ok (.istore_n 2, 1) := by decide +kernel
theorem dX7_refuse_5 : decode cX7_refuse 5 = .ok (.iload_n 2, 1) := by decide +kernel
theorem dX7_refuse_6 : decode cX7_refuse 6 = .ok (.iconst 4, 1) := by decide +kernel
theorem dX7_refuse_7 : decode cX7_refuse 7 = .ok (.invokestatic 73, 3) := by decide +kernel
theorem dX7_refuse_10 : decode cX7_refuse 10 = .ok (.ifCond .eq 13, 3) := by decide +kernel
theorem dX7_refuse_13 : decode cX7_refuse 13 = .ok (.aload_n 0, 1) := by decide +kernel
theorem dX7_refuse_14 : decode cX7_refuse 14 = .ok (.getfield 60, 3) := by decide +kernel
theorem dX7_refuse_17 : decode cX7_refuse 17 = .ok (.iload_n 2, 1) := by decide +kernel
theorem dX7_refuse_18 : decode cX7_refuse 18 = .ok (.dup2, 1) := by decide +kernel
theorem dX7_refuse_19 : decode cX7_refuse 19 = .ok (.iaload, 1) := by decide +kernel
theorem dX7_refuse_20 : decode cX7_refuse 20 = .ok (.iconst 1, 1) := by decide +kernel
theorem dX7_refuse_21 : decode cX7_refuse 21 = .ok (.iadd, 1) := by decide +kernel
theorem dX7_refuse_22 : decode cX7_refuse 22 = .ok (.iastore, 1) := by decide +kernel
theorem dX7_refuse_23 : decode cX7_refuse 23 = .ok (.iload_n 1, 1) := by decide +kernel
theorem dX7_refuse_24 : decode cX7_refuse 24 = .ok (.ireturn, 1) := by decide +kernel
theorem dX7_isWithin_0 : decode cX7_isWithin 0 = .ok (.iload_n 0, 1) := by decide +kernel
theorem dX7_isWithin_1 : decode cX7_isWithin 1 = .ok (.ifCond .lt 12, 3) := by decide +kernel
theorem dX7_isWithin_4 : decode cX7_isWithin 4 = .ok (.iload_n 0, 1) := by decide +kernel
theorem dX7_isWithin_5 : decode cX7_isWithin 5 = .ok (.iload_n 1, 1) := by decide +kernel
theorem dX7_isWithin_6 : decode cX7_isWithin 6 = .ok (.if_icmp .gt 7, 3) := by decide +kernel
theorem dX7_isWithin_9 : decode cX7_isWithin 9 = .ok (.iconst 1, 1) := by decide +kernel
theorem dX7_isWithin_10 : decode cX7_isWithin 10 = .ok (.goto 4, 3) := by decide +kernel
theorem dX7_isWithin_13 : decode cX7_isWithin 13 = .ok (.iconst 0, 1) := by decide +kernel
theorem dX7_isWithin_14 : decode cX7_isWithin 14 = .ok (.ireturn, 1) := by decide +kernel
theorem dX7_isShelf_0 : decode cX7_isShelf 0 = .ok (.iload_n 0, 1) := by decide +kernel
theorem dX7_isShelf_1 : decode cX7_isShelf 1 = .ok (.bipush 7, 2) := by decide +kernel
theorem dX7_isShelf_3 : decode cX7_isShelf 3 = .ok (.invokestatic 73, 3) := by decide +kernel
theorem dX7_isShelf_6 : decode cX7_isShelf 6 = .ok (.ireturn, 1) := by decide +kernel
theorem dX7_isKind_0 : decode cX7_isKind 0 = .ok (.iload_n 0, 1) := by decide +kernel
theorem dX7_isKind_1 : decode cX7_isKind 1 = .ok (.iconst 5, 1) := by decide +kernel
theorem dX7_isKind_2 : decode cX7_isKind 2 = .ok (.invokestatic 73, 3) := by decide +kernel
theorem dX7_isKind_5 : decode cX7_isKind 5 = .ok (.ireturn, 1) := by decide +kernel
theorem dX7_asNumber_0 : decode cX7_asNumber 0 = .ok (.iload_n 0, 1) := by decide +kernel
theorem dX7_asNumber_1 : decode cX7_asNumber 1 = .ok (.ifCond .eq 7, 3) := by decide +kernel
theorem dX7_asNumber_4 : decode cX7_asNumber 4 = .ok (.iconst 1, 1) := by decide +kernel
theorem dX7_asNumber_5 : decode cX7_asNumber 5 = .ok (.goto 4, 3) := by decide +kernel
theorem dX7_asNumber_8 : decode cX7_asNumber 8 = .ok (.iconst 0, 1) := by decide +kernel
theorem dX7_asNumber_9 : decode cX7_asNumber 9 = .ok (.ireturn, 1) := by decide +kernel
theorem dX7_isOfOrUnder_0 : decode cX7_isOfOrUnder 0 = .ok (.iload_n 0, 1) := by decide +kernel
theorem dX7_isOfOrUnder_1 : decode cX7_isOfOrUnder 1 = .ok (.istore_n 2, 1) := by decide +kernel
theorem dX7_isOfOrUnder_2 : decode cX7_isOfOrUnder 2 = .ok (.iconst 0, 1) := by decide +kernel
theorem dX7_isOfOrUnder_3 : decode cX7_isOfOrUnder 3 = .ok (.istore_n 3, 1) := by decide +kernel
theorem dX7_isOfOrUnder_4 : decode cX7_isOfOrUnder 4 = .ok (.iload_n 3, 1) := by decide +kernel
theorem dX7_isOfOrUnder_5 : decode cX7_isOfOrUnder 5 = .ok (.bipush 6, 2) := by decide +kernel
theorem dX7_isOfOrUnder_7 : decode cX7_isOfOrUnder 7 = .ok (.if_icmp .ge 29, 3) := by decide +kernel
theorem dX7_isOfOrUnder_10 : decode cX7_isOfOrUnder 10 = .ok (.iload_n 2, 1) := by decide +kernel
theorem dX7_isOfOrUnder_11 : decode cX7_isOfOrUnder 11 = .ok (.invokestatic 134, 3) := by decide +kernel
theorem dX7_isOfOrUnder_14 : decode cX7_isOfOrUnder 14 = .ok (.ifCond .eq 22, 3) := by decide +kernel
theorem dX7_isOfOrUnder_17 : decode cX7_isOfOrUnder 17 = .ok (.iload_n 2, 1) := by decide +kernel
theorem dX7_isOfOrUnder_18 : decode cX7_isOfOrUnder 18 = .ok (.iload_n 1, 1) := by decide +kernel
theorem dX7_isOfOrUnder_19 : decode cX7_isOfOrUnder 19 = .ok (.if_icmp .ne 5, 3) := by decide +kernel
theorem dX7_isOfOrUnder_22 : decode cX7_isOfOrUnder 22 = .ok (.iconst 1, 1) := by decide +kernel
theorem dX7_isOfOrUnder_23 : decode cX7_isOfOrUnder 23 = .ok (.ireturn, 1) := by decide +kernel
theorem dX7_isOfOrUnder_24 : decode cX7_isOfOrUnder 24 = .ok (.getstatic 347, 3) := by decide +kernel
theorem dX7_isOfOrUnder_27 : decode cX7_isOfOrUnder 27 = .ok (.iload_n 2, 1) := by decide +kernel
theorem dX7_isOfOrUnder_28 : decode cX7_isOfOrUnder 28 = .ok (.iaload, 1) := by decide +kernel
theorem dX7_isOfOrUnder_29 : decode cX7_isOfOrUnder 29 = .ok (.istore_n 2, 1) := by decide +kernel
theorem dX7_isOfOrUnder_30 : decode cX7_isOfOrUnder 30 = .ok (.iinc 3 1, 3) := by decide +kernel
theorem dX7_isOfOrUnder_33 : decode cX7_isOfOrUnder 33 = .ok (.goto (-29), 3) := by decide +kernel
theorem dX7_isOfOrUnder_36 : decode cX7_isOfOrUnder 36 = .ok (.iconst 0, 1) := by decide +kernel
theorem dX7_isOfOrUnder_37 : decode cX7_isOfOrUnder 37 = .ok (.ireturn, 1) := by decide +kernel
theorem dX7_rowFault_0 : decode cX7_rowFault 0 = .ok (.iload_n 1, 1) := by decide +kernel
theorem dX7_rowFault_1 : decode cX7_rowFault 1 = .ok (.invokestatic 69, 3) := by decide +kernel
theorem dX7_rowFault_4 : decode cX7_rowFault 4 = .ok (.ifCond .ne 6, 3) := by decide +kernel
theorem dX7_rowFault_7 : decode cX7_rowFault 7 = .ok (.bipush (-2), 2) := by decide +kernel
theorem dX7_rowFault_9 : decode cX7_rowFault 9 = .ok (.ireturn, 1) := by decide +kernel
theorem dX7_rowFault_10 : decode cX7_rowFault 10 = .ok (.aload_n 0, 1) := by decide +kernel
theorem dX7_rowFault_11 : decode cX7_rowFault 11 = .ok (.getfield 56, 3) := by decide +kernel
theorem dX7_rowFault_14 : decode cX7_rowFault 14 = .ok (.iload_n 1, 1) := by decide +kernel
theorem dX7_rowFault_15 : decode cX7_rowFault 15 = .ok (.aaload, 1) := by decide +kernel
theorem dX7_rowFault_16 : decode cX7_rowFault 16 = .ok (.invokevirtual 96, 3) := by decide +kernel
theorem dX7_rowFault_19 : decode cX7_rowFault 19 = .ok (.ifCond .eq 6, 3) := by decide +kernel
theorem dX7_rowFault_22 : decode cX7_rowFault 22 = .ok (.bipush (-3), 2) := by decide +kernel
theorem dX7_rowFault_24 : decode cX7_rowFault 24 = .ok (.ireturn, 1) := by decide +kernel
theorem dX7_rowFault_25 : decode cX7_rowFault 25 = .ok (.aload_n 0, 1) := by decide +kernel
theorem dX7_rowFault_26 : decode cX7_rowFault 26 = .ok (.getfield 56, 3) := by decide +kernel
theorem dX7_rowFault_29 : decode cX7_rowFault 29 = .ok (.iload_n 1, 1) := by decide +kernel
theorem dX7_rowFault_30 : decode cX7_rowFault 30 = .ok (.aaload, 1) := by decide +kernel
theorem dX7_rowFault_31 : decode cX7_rowFault 31 = .ok (.invokevirtual 100, 3) := by decide +kernel
theorem dX7_rowFault_34 : decode cX7_rowFault 34 = .ok (.ifCond .eq 6, 3) := by decide +kernel
theorem dX7_rowFault_37 : decode cX7_rowFault 37 = .ok (.bipush (-4), 2) := by decide +kernel
theorem dX7_rowFault_39 : decode cX7_rowFault 39 = .ok (.ireturn, 1) := by decide +kernel
theorem dX7_rowFault_40 : decode cX7_rowFault 40 = .ok (.aload_n 0, 1) := by decide +kernel
theorem dX7_rowFault_41 : decode cX7_rowFault 41 = .ok (.getfield 56, 3) := by decide +kernel
theorem dX7_rowFault_44 : decode cX7_rowFault 44 = .ok (.iload_n 1, 1) := by decide +kernel
theorem dX7_rowFault_45 : decode cX7_rowFault 45 = .ok (.aaload, 1) := by decide +kernel
theorem dX7_rowFault_46 : decode cX7_rowFault 46 = .ok (.getfield 350, 3) := by decide +kernel
theorem dX7_rowFault_49 : decode cX7_rowFault 49 = .ok (.iload_n 2, 1) := by decide +kernel
theorem dX7_rowFault_50 : decode cX7_rowFault 50 = .ok (.if_icmp .ge 8, 3) := by decide +kernel
theorem dX7_rowFault_53 : decode cX7_rowFault 53 = .ok (.bipush (-2), 2) := by decide +kernel
theorem dX7_rowFault_55 : decode cX7_rowFault 55 = .ok (.goto 4, 3) := by decide +kernel
theorem dX7_rowFault_58 : decode cX7_rowFault 58 = .ok (.iconst 0, 1) := by decide +kernel
theorem dX7_rowFault_59 : decode cX7_rowFault 59 = .ok (.ireturn, 1) := by decide +kernel
theorem dX7_twosFault_0 : decode cX7_twosFault 0 = .ok (.iload_n 2, 1) := by decide +kernel
theorem dX7_twosFault_1 : decode cX7_twosFault 1 = .ok (.bipush 20, 2) := by decide +kernel
theorem dX7_twosFault_3 : decode cX7_twosFault 3 = .ok (.invokestatic 73, 3) := by decide +kernel
theorem dX7_twosFault_6 : decode cX7_twosFault 6 = .ok (.ifCond .eq 14, 3) := by decide +kernel
theorem dX7_twosFault_9 : decode cX7_twosFault 9 = .ok (.aload_n 0, 1) := by decide +kernel
theorem dX7_twosFault_10 : decode cX7_twosFault 10 = .ok (.iload_n 1, 1) := by decide +kernel
theorem dX7_twosFault_11 : decode cX7_twosFault 11 = .ok (.iconst 2, 1) := by decide +kernel
theorem dX7_twosFault_12 : decode cX7_twosFault 12 = .ok (.iload_n 2, 1) := by decide +kernel
theorem dX7_twosFault_13 : decode cX7_twosFault 13 = .ok (.imul, 1) := by decide +kernel
theorem dX7_twosFault_14 : decode cX7_twosFault 14 = .ok (.invokevirtual 85, 3) := by decide +kernel
theorem dX7_twosFault_17 : decode cX7_twosFault 17 = .ok (.goto 5, 3) := by decide +kernel
theorem dX7_twosFault_20 : decode cX7_twosFault 20 = .ok (.bipush (-2), 2) := by decide +kernel
theorem dX7_twosFault_22 : decode cX7_twosFault 22 = .ok (.ireturn, 1) := by decide +kernel
theorem dX7_bowlsFault_0 : decode cX7_bowlsFault 0 = .ok (.aload_n 0, 1) := by decide +kernel
theorem dX7_bowlsFault_1 : decode cX7_bowlsFault 1 = .ok (.iload_n 1, 1) := by decide +kernel
theorem dX7_bowlsFault_2 : decode cX7_bowlsFault 2 = .ok (.iload_n 2, 1) := by decide +kernel
theorem dX7_bowlsFault_3 : decode cX7_bowlsFault 3 = .ok (.invokevirtual 248, 3) := by decide +kernel
theorem dX7_bowlsFault_6 : decode cX7_bowlsFault 6 = .ok (.istore_n 3, 1) := by decide +kernel
theorem dX7_bowlsFault_7 : decode cX7_bowlsFault 7 = .ok (.iload_n 3, 1) := by decide +kernel
theorem dX7_bowlsFault_8 : decode cX7_bowlsFault 8 = .ok (.ifCond .eq 5, 3) := by decide +kernel
theorem dX7_bowlsFault_11 : decode cX7_bowlsFault 11 = .ok (.iload_n 3, 1) := by decide +kernel
theorem dX7_bowlsFault_12 : decode cX7_bowlsFault 12 = .ok (.ireturn, 1) := by decide +kernel
theorem dX7_bowlsFault_13 : decode cX7_bowlsFault 13 = .ok (.aload_n 0, 1) := by decide +kernel
theorem dX7_bowlsFault_14 : decode cX7_bowlsFault 14 = .ok (.getfield 43, 3) := by decide +kernel
theorem dX7_bowlsFault_17 : decode cX7_bowlsFault 17 = .ok (.aload_n 0, 1) := by decide +kernel
theorem dX7_bowlsFault_18 : decode cX7_bowlsFault 18 = .ok (.getfield 56, 3) := by decide +kernel
theorem dX7_bowlsFault_21 : decode cX7_bowlsFault 21 = .ok (.iload_n 1, 1) := by decide +kernel
theorem dX7_bowlsFault_22 : decode cX7_bowlsFault 22 = .ok (.aaload, 1) := by decide +kernel
theorem dX7_bowlsFault_23 : decode cX7_bowlsFault 23 = .ok (.iload_n 2, 1) := by decide +kernel
theorem dX7_bowlsFault_24 : decode cX7_bowlsFault 24 = .ok (.aload_n 0, 1) := by decide +kernel
theorem dX7_bowlsFault_25 : decode cX7_bowlsFault 25 = .ok (.getfield 10, 3) := by decide +kernel
theorem dX7_bowlsFault_28 : decode cX7_bowlsFault 28 = .ok (.getfield 213, 3) := by decide +kernel
theorem dX7_bowlsFault_31 : decode cX7_bowlsFault 31 = .ok (.invokevirtual 265, 3) := by decide +kernel
theorem dX7_bowlsFault_34 : decode cX7_bowlsFault 34 = .ok (.iconst (-1), 1) := by decide +kernel
theorem dX7_bowlsFault_35 : decode cX7_bowlsFault 35 = .ok (.if_icmp .ne 7, 3) := by decide +kernel
theorem dX7_bowlsFault_38 : decode cX7_bowlsFault 38 = .ok (.iconst 0, 1) := by decide +kernel
theorem dX7_bowlsFault_39 : decode cX7_bowlsFault 39 = .ok (.goto 5, 3) := by decide +kernel
theorem dX7_bowlsFault_42 : decode cX7_bowlsFault 42 = .ok (.bipush (-5), 2) := by decide +kernel
theorem dX7_bowlsFault_44 : decode cX7_bowlsFault 44 = .ok (.ireturn, 1) := by decide +kernel
theorem dX7_areAirs_0 : decode cX7_areAirs 0 = .ok (.iconst 0, 1) := by decide +kernel
theorem dX7_areAirs_1 : decode cX7_areAirs 1 = .ok (.istore_n 2, 1) := by decide +kernel
theorem dX7_areAirs_2 : decode cX7_areAirs 2 = .ok (.iload_n 2, 1) := by decide +kernel
theorem dX7_areAirs_3 : decode cX7_areAirs 3 = .ok (.iload_n 1, 1) := by decide +kernel
theorem dX7_areAirs_4 : decode cX7_areAirs 4 = .ok (.if_icmp .ge 37, 3) := by decide +kernel
theorem dX7_areAirs_7 : decode cX7_areAirs 7 = .ok (.aload_n 0, 1) := by decide +kernel
theorem dX7_areAirs_8 : decode cX7_areAirs 8 = .ok (.iconst 2, 1) := by decide +kernel
theorem dX7_areAirs_9 : decode cX7_areAirs 9 = .ok (.iload_n 2, 1) := by decide +kernel
theorem dX7_areAirs_10 : decode cX7_areAirs 10 = .ok (.imul, 1) := by decide +kernel
theorem dX7_areAirs_11 : decode cX7_areAirs 11 = .ok (.invokevirtual 120, 3) := by decide +kernel
theorem dX7_areAirs_14 : decode cX7_areAirs 14 = .ok (.lconst 0, 1) := by decide +kernel
theorem dX7_areAirs_15 : decode cX7_areAirs 15 = .ok (.lcmp, 1) := by decide +kernel
theorem dX7_areAirs_16 : decode cX7_areAirs 16 = .ok (.ifCond .lt 17, 3) := by decide +kernel
theorem dX7_areAirs_19 : decode cX7_areAirs 19 = .ok (.aload_n 0, 1) := by decide +kernel
theorem dX7_areAirs_20 : decode cX7_areAirs 20 = .ok (.iconst 2, 1) := by decide +kernel
theorem dX7_areAirs_21 : decode cX7_areAirs 21 = .ok (.iload_n 2, 1) := by decide +kernel
theorem dX7_areAirs_22 : decode cX7_areAirs 22 = .ok (.imul, 1) := by decide +kernel
theorem dX7_areAirs_23 : decode cX7_areAirs 23 = .ok (.invokevirtual 120, 3) := by decide +kernel
theorem dX7_areAirs_26 : decode cX7_areAirs 26 = .ok (.ldc2_w 351, 3) := by decide +kernel
theorem dX7_areAirs_29 : decode cX7_areAirs 29 = .ok (.lcmp, 1) := by decide +kernel
theorem dX7_areAirs_30 : decode cX7_areAirs 30 = .ok (.ifCond .le 5, 3) := by decide +kernel
theorem dX7_areAirs_33 : decode cX7_areAirs 33 = .ok (.iconst 0, 1) := by decide +kernel
theorem dX7_areAirs_34 : decode cX7_areAirs 34 = .ok (.ireturn, 1) := by decide +kernel
theorem dX7_areAirs_35 : decode cX7_areAirs 35 = .ok (.iinc 2 1, 3) := by decide +kernel
theorem dX7_areAirs_38 : decode cX7_areAirs 38 = .ok (.goto (-36), 3) := by decide +kernel
theorem dX7_areAirs_41 : decode cX7_areAirs 41 = .ok (.iconst 1, 1) := by decide +kernel
theorem dX7_areAirs_42 : decode cX7_areAirs 42 = .ok (.ireturn, 1) := by decide +kernel
theorem dX7_areWhethers_0 : decode cX7_areWhethers 0 = .ok (.iconst 0, 1) := by decide +kernel
theorem dX7_areWhethers_1 : decode cX7_areWhethers 1 = .ok (.istore_n 2, 1) := by decide +kernel
theorem dX7_areWhethers_2 : decode cX7_areWhethers 2 = .ok (.iload_n 2, 1) := by decide +kernel
theorem dX7_areWhethers_3 : decode cX7_areWhethers 3 = .ok (.iload_n 1, 1) := by decide +kernel
theorem dX7_areWhethers_4 : decode cX7_areWhethers 4 = .ok (.if_icmp .ge 39, 3) := by decide +kernel
theorem dX7_areWhethers_7 : decode cX7_areWhethers 7 = .ok (.aload_n 0, 1) := by decide +kernel
theorem dX7_areWhethers_8 : decode cX7_areWhethers 8 = .ok (.iconst 2, 1) := by decide +kernel
theorem dX7_areWhethers_9 : decode cX7_areWhethers 9 = .ok (.iload_n 2, 1) := by decide +kernel
theorem dX7_areWhethers_10 : decode cX7_areWhethers 10 = .ok (.imul, 1) := by decide +kernel
theorem dX7_areWhethers_11 : decode cX7_areWhethers 11 = .ok (.iconst 1, 1) := by decide +kernel
theorem dX7_areWhethers_12 : decode cX7_areWhethers 12 = .ok (.iadd, 1) := by decide +kernel
theorem dX7_areWhethers_13 : decode cX7_areWhethers 13 = .ok (.invokevirtual 120, 3) := by decide +kernel
theorem dX7_areWhethers_16 : decode cX7_areWhethers 16 = .ok (.lconst 0, 1) := by decide +kernel
theorem dX7_areWhethers_17 : decode cX7_areWhethers 17 = .ok (.lcmp, 1) := by decide +kernel
theorem dX7_areWhethers_18 : decode cX7_areWhethers 18 = .ok (.ifCond .eq 19, 3) := by decide +kernel
theorem dX7_areWhethers_21 : decode cX7_areWhethers 21 = .ok (.aload_n 0, 1) := by decide +kernel
theorem dX7_areWhethers_22 : decode cX7_areWhethers 22 = .ok (.iconst 2, 1) := by decide +kernel
theorem dX7_areWhethers_23 : decode cX7_areWhethers 23 = .ok (.iload_n 2, 1) := by decide +kernel
theorem dX7_areWhethers_24 : decode cX7_areWhethers 24 = .ok (.imul, 1) := by decide +kernel
theorem dX7_areWhethers_25 : decode cX7_areWhethers 25 = .ok (.iconst 1, 1) := by decide +kernel
theorem dX7_areWhethers_26 : decode cX7_areWhethers 26 = .ok (.iadd, 1) := by decide +kernel
theorem dX7_areWhethers_27 : decode cX7_areWhethers 27 = .ok (.invokevirtual 120, 3) := by decide +kernel
theorem dX7_areWhethers_30 : decode cX7_areWhethers 30 = .ok (.lconst 1, 1) := by decide +kernel
theorem dX7_areWhethers_31 : decode cX7_areWhethers 31 = .ok (.lcmp, 1) := by decide +kernel
theorem dX7_areWhethers_32 : decode cX7_areWhethers 32 = .ok (.ifCond .eq 5, 3) := by decide +kernel
theorem dX7_areWhethers_35 : decode cX7_areWhethers 35 = .ok (.iconst 0, 1) := by decide +kernel
theorem dX7_areWhethers_36 : decode cX7_areWhethers 36 = .ok (.ireturn, 1) := by decide +kernel
theorem dX7_areWhethers_37 : decode cX7_areWhethers 37 = .ok (.iinc 2 1, 3) := by decide +kernel
theorem dX7_areWhethers_40 : decode cX7_areWhethers 40 = .ok (.goto (-38), 3) := by decide +kernel
theorem dX7_areWhethers_43 : decode cX7_areWhethers 43 = .ok (.iconst 1, 1) := by decide +kernel
theorem dX7_areWhethers_44 : decode cX7_areWhethers 44 = .ok (.ireturn, 1) := by decide +kernel
theorem dX7_shelvesInUse_0 : decode cX7_shelvesInUse 0 = .ok (.iconst 0, 1) := by decide +kernel
theorem dX7_shelvesInUse_1 : decode cX7_shelvesInUse 1 = .ok (.istore_n 1, 1) := by decide +kernel
theorem dX7_shelvesInUse_2 : decode cX7_shelvesInUse 2 = .ok (.iconst 0, 1) := by decide +kernel
theorem dX7_shelvesInUse_3 : decode cX7_shelvesInUse 3 = .ok (.istore_n 2, 1) := by decide +kernel
theorem dX7_shelvesInUse_4 : decode cX7_shelvesInUse 4 = .ok (.iload_n 2, 1) := by decide +kernel
theorem dX7_shelvesInUse_5 : decode cX7_shelvesInUse 5 = .ok (.bipush 8, 2) := by decide +kernel
theorem dX7_shelvesInUse_7 : decode cX7_shelvesInUse 7 = .ok (.if_icmp .ge 24, 3) := by decide +kernel
theorem dX7_shelvesInUse_10 : decode cX7_shelvesInUse 10 = .ok (.aload_n 0, 1) := by decide +kernel
theorem dX7_shelvesInUse_11 : decode cX7_shelvesInUse 11 = .ok (.getfield 56, 3) := by decide +kernel
theorem dX7_shelvesInUse_14 : decode cX7_shelvesInUse 14 = .ok (.iload_n 2, 1) := by decide +kernel
theorem dX7_shelvesInUse_15 : decode cX7_shelvesInUse 15 = .ok (.aaload, 1) := by decide +kernel
theorem dX7_shelvesInUse_16 : decode cX7_shelvesInUse 16 = .ok (.invokevirtual 100, 3) := by decide +kernel
theorem dX7_shelvesInUse_19 : decode cX7_shelvesInUse 19 = .ok (.ifCond .ne 6, 3) := by decide +kernel
theorem dX7_shelvesInUse_22 : decode cX7_shelvesInUse 22 = .ok (.iinc 1 1, 3) := by decide +kernel
theorem dX7_shelvesInUse_25 : decode cX7_shelvesInUse 25 = .ok (.iinc 2 1, 3) := by decide +kernel
theorem dX7_shelvesInUse_28 : decode cX7_shelvesInUse 28 = .ok (.goto (-24), 3) := by decide +kernel
theorem dX7_shelvesInUse_31 : decode cX7_shelvesInUse 31 = .ok (.iload_n 1, 1) := by decide +kernel
theorem dX7_shelvesInUse_32 : decode cX7_shelvesInUse 32 = .ok (.ireturn, 1) := by decide +kernel
theorem dX8_init_0 : decode cX8_init 0 = .ok (.aload_n 0, 1) := by decide +kernel
theorem dX8_init_1 : decode cX8_init 1 = .ok (.invokespecial 1, 3) := by decide +kernel
theorem dX8_init_4 : decode cX8_init 4 = .ok (.aload_n 0, 1) := by decide +kernel
theorem dX8_init_5 : decode cX8_init 5 = .ok (.bipush 8, 2) := by decide +kernel
theorem dX8_init_7 : decode cX8_init 7 = .ok (.newarray .int, 2) := by decide +kernel
theorem dX8_init_9 : decode cX8_init 9 = .ok (.putfield 7, 3) := by decide +kernel
theorem dX8_init_12 : decode cX8_init 12 = .ok (.aload_n 0, 1) := by decide +kernel
theorem dX8_init_13 : decode cX8_init 13 = .ok (.bipush 8, 2) := by decide +kernel
theorem dX8_init_15 : decode cX8_init 15 = .ok (.newarray .int, 2) := by decide +kernel
theorem dX8_init_17 : decode cX8_init 17 = .ok (.putfield 13, 3) := by decide +kernel
theorem dX8_init_20 : decode cX8_init 20 = .ok (.aload_n 0, 1) := by decide +kernel
theorem dX8_init_21 : decode cX8_init 21 = .ok (.bipush 8, 2) := by decide +kernel
theorem dX8_init_23 : decode cX8_init 23 = .ok (.newarray .int, 2) := by decide +kernel
theorem dX8_init_25 : decode cX8_init 25 = .ok (.putfield 16, 3) := by decide +kernel
theorem dX8_init_28 : decode cX8_init 28 = .ok (.aload_n 0, 1) := by decide +kernel
theorem dX8_init_29 : decode cX8_init 29 = .ok (.bipush 8, 2) := by decide +kernel
theorem dX8_init_31 : decode cX8_init 31 = .ok (.bipush 40, 2) := by decide +kernel
theorem dX8_init_33 : decode cX8_init 33 = .ok (.multianewarray 19 2, 4) := by decide +kernel
theorem dX8_init_37 : decode cX8_init 37 = .ok (.putfield 21, 3) := by decide +kernel
theorem dX8_init_40 : decode cX8_init 40 = .ok (.aload_n 0, 1) := by decide +kernel
theorem dX8_init_41 : decode cX8_init 41 = .ok (.bipush 40, 2) := by decide +kernel
theorem dX8_init_43 : decode cX8_init 43 = .ok (.newarray .long, 2) := by decide +kernel
theorem dX8_init_45 : decode cX8_init 45 = .ok (.putfield 24, 3) := by decide +kernel
theorem dX8_init_48 : decode cX8_init 48 = .ok (.aload_n 0, 1) := by decide +kernel
theorem dX8_init_49 : decode cX8_init 49 = .ok (.bipush 8, 2) := by decide +kernel
theorem dX8_init_51 : decode cX8_init 51 = .ok (.newarray .int, 2) := by decide +kernel
theorem dX8_init_53 : decode cX8_init 53 = .ok (.putfield 28, 3) := by decide +kernel
theorem dX8_init_56 : decode cX8_init 56 = .ok (.aload_n 0, 1) := by decide +kernel
theorem dX8_init_57 : decode cX8_init 57 = .ok (.sipush 250, 3) := by decide +kernel
theorem dX8_init_60 : decode cX8_init 60 = .ok (.newarray .int, 2) := by decide +kernel
theorem dX8_init_62 : decode cX8_init 62 = .ok (.putfield 31, 3) := by decide +kernel
theorem dX8_init_65 : decode cX8_init 65 = .ok (.aload_n 0, 1) := by decide +kernel
theorem dX8_init_66 : decode cX8_init 66 = .ok (.bipush 8, 2) := by decide +kernel
theorem dX8_init_68 : decode cX8_init 68 = .ok (.newarray .int, 2) := by decide +kernel
theorem dX8_init_70 : decode cX8_init 70 = .ok (.putfield 34, 3) := by decide +kernel
theorem dX8_init_73 : decode cX8_init 73 = .ok (.aload_n 0, 1) := by decide +kernel
theorem dX8_init_74 : decode cX8_init 74 = .ok (.bipush 25, 2) := by decide +kernel
theorem dX8_init_76 : decode cX8_init 76 = .ok (.putfield 37, 3) := by decide +kernel
theorem dX8_init_79 : decode cX8_init 79 = .ok (.aload_n 0, 1) := by decide +kernel
theorem dX8_init_80 : decode cX8_init 80 = .ok (.iconst 1, 1) := by decide +kernel
theorem dX8_init_81 : decode cX8_init 81 = .ok (.putfield 41, 3) := by decide +kernel
theorem dX8_init_84 : decode cX8_init 84 = .ok (.aload_n 0, 1) := by decide +kernel
theorem dX8_init_85 : decode cX8_init 85 = .ok (.iconst (-1), 1) := by decide +kernel
theorem dX8_init_86 : decode cX8_init 86 = .ok (.putfield 44, 3) := by decide +kernel
theorem dX8_init_89 : decode cX8_init 89 = .ok (.aload_n 0, 1) := by decide +kernel
theorem dX8_init_90 : decode cX8_init 90 = .ok (.iconst 2, 1) := by decide +kernel
theorem dX8_init_91 : decode cX8_init 91 = .ok (.putfield 47, 3) := by decide +kernel
theorem dX8_init_94 : decode cX8_init 94 = .ok (.aload_n 0, 1) := by decide +kernel
theorem dX8_init_95 : decode cX8_init 95 = .ok (.bipush 8, 2) := by decide +kernel
theorem dX8_init_97 : decode cX8_init 97 = .ok (.newarray .int, 2) := by decide +kernel
theorem dX8_init_99 : decode cX8_init 99 = .ok (.putfield 50, 3) := by decide +kernel
theorem dX8_init_102 : decode cX8_init 102 = .ok (.aload_n 0, 1) := by decide +kernel
theorem dX8_init_103 : decode cX8_init 103 = .ok (.bipush 8, 2) := by decide +kernel
theorem dX8_init_105 : decode cX8_init 105 = .ok (.newarray .int, 2) := by decide +kernel
theorem dX8_init_107 : decode cX8_init 107 = .ok (.putfield 53, 3) := by decide +kernel
theorem dX8_init_110 : decode cX8_init 110 = .ok (.aload_n 0, 1) := by decide +kernel
theorem dX8_init_111 : decode cX8_init 111 = .ok (.bipush 8, 2) := by decide +kernel
theorem dX8_init_113 : decode cX8_init 113 = .ok (.newarray .int, 2) := by decide +kernel
theorem dX8_init_115 : decode cX8_init 115 = .ok (.putfield 56, 3) := by decide +kernel
theorem dX8_init_118 : decode cX8_init 118 = .ok (.aload_n 0, 1) := by decide +kernel
theorem dX8_init_119 : decode cX8_init 119 = .ok (.bipush 8, 2) := by decide +kernel
theorem dX8_init_121 : decode cX8_init 121 = .ok (.newarray .int, 2) := by decide +kernel
theorem dX8_init_123 : decode cX8_init 123 = .ok (.putfield 59, 3) := by decide +kernel
theorem dX8_init_126 : decode cX8_init 126 = .ok (.aload_n 0, 1) := by decide +kernel
theorem dX8_init_127 : decode cX8_init 127 = .ok (.bipush 8, 2) := by decide +kernel
theorem dX8_init_129 : decode cX8_init 129 = .ok (.newarray .int, 2) := by decide +kernel
theorem dX8_init_131 : decode cX8_init 131 = .ok (.putfield 62, 3) := by decide +kernel
theorem dX8_init_134 : decode cX8_init 134 = .ok (.aload_n 0, 1) := by decide +kernel
theorem dX8_init_135 : decode cX8_init 135 = .ok (.iconst 1, 1) := by decide +kernel
theorem dX8_init_136 : decode cX8_init 136 = .ok (.putfield 65, 3) := by decide +kernel
theorem dX8_init_139 : decode cX8_init 139 = .ok (.aload_n 0, 1) := by decide +kernel
theorem dX8_init_140 : decode cX8_init 140 = .ok (.iconst 3, 1) := by decide +kernel
theorem dX8_init_141 : decode cX8_init 141 = .ok (.newarray .int, 2) := by decide +kernel
theorem dX8_init_143 : decode cX8_init 143 = .ok (.putfield 68, 3) := by decide +kernel
theorem dX8_init_146 : decode cX8_init 146 = .ok (.aload_n 0, 1) := by decide +kernel
theorem dX8_init_147 : decode cX8_init 147 = .ok (.iconst (-1), 1) := by decide +kernel
theorem dX8_init_148 : decode cX8_init 148 = .ok (.putfield 71, 3) := by decide +kernel
theorem dX8_init_151 : decode cX8_init 151 = .ok (.aload_n 0, 1) := by decide +kernel
theorem dX8_init_152 : decode cX8_init 152 = .ok (.bipush 8, 2) := by decide +kernel
theorem dX8_init_154 : decode cX8_init 154 = .ok (.newarray .int, 2) := by decide +kernel
theorem dX8_init_156 : decode cX8_init 156 = .ok (.putfield 74, 3) := by decide +kernel
theorem dX8_init_159 : decode cX8_init 159 = .ok (.aload_n 0, 1) := by decide +kernel
theorem dX8_init_160 : decode cX8_init 160 = .ok (.bipush 8, 2) := by decide +kernel
theorem dX8_init_162 : decode cX8_init 162 = .ok (.newarray .int, 2) := by decide +kernel
theorem dX8_init_164 : decode cX8_init 164 = .ok (.putfield 77, 3) := by decide +kernel
theorem dX8_init_167 : decode cX8_init 167 = .ok (.aload_n 0, 1) := by decide +kernel
theorem dX8_init_168 : decode cX8_init 168 = .ok (.sipush 256, 3) := by decide +kernel
theorem dX8_init_171 : decode cX8_init 171 = .ok (.newarray .int, 2) := by decide +kernel
theorem dX8_init_173 : decode cX8_init 173 = .ok (.putfield 80, 3) := by decide +kernel
theorem dX8_init_176 : decode cX8_init 176 = .ok (.aload_n 0, 1) := by decide +kernel
theorem dX8_init_177 : decode cX8_init 177 = .ok (.bipush 6, 2) := by decide +kernel
theorem dX8_init_179 : decode cX8_init 179 = .ok (.bipush 8, 2) := by decide +kernel
theorem dX8_init_181 : decode cX8_init 181 = .ok (.multianewarray 83 2, 4) := by decide +kernel
theorem dX8_init_185 : decode cX8_init 185 = .ok (.putfield 85, 3) := by decide +kernel
theorem dX8_init_188 : decode cX8_init 188 = .ok (.return_, 1) := by decide +kernel
theorem dX8_refuse_0 : decode cX8_refuse 0 = .ok (.aload_n 0, 1) := by decide +kernel
theorem dX8_refuse_1 : decode cX8_refuse 1 = .ok (.getfield 34, 3) := by decide +kernel
theorem dX8_refuse_4 : decode cX8_refuse 4 = .ok (.iload_n 1, 1) := by decide +kernel
theorem dX8_refuse_5 : decode cX8_refuse 5 = .ok (.ineg, 1) := by decide +kernel
theorem dX8_refuse_6 : decode cX8_refuse 6 = .ok (.dup2, 1) := by decide +kernel
theorem dX8_refuse_7 : decode cX8_refuse 7 = .ok (.iaload, 1) := by decide +kernel
theorem dX8_refuse_8 : decode cX8_refuse 8 = .ok (.iconst 1, 1) := by decide +kernel
theorem dX8_refuse_9 : decode cX8_refuse 9 = .ok (.iadd, 1) := by decide +kernel
theorem dX8_refuse_10 : decode cX8_refuse 10 = .ok (.iastore, 1) := by decide +kernel
theorem dX8_refuse_11 : decode cX8_refuse 11 = .ok (.iload_n 1, 1) := by decide +kernel
theorem dX8_refuse_12 : decode cX8_refuse 12 = .ok (.ireturn, 1) := by decide +kernel
theorem dX8_in_0 : decode cX8_in 0 = .ok (.lload_n 0, 1) := by decide +kernel
theorem dX8_in_1 : decode cX8_in 1 = .ok (.lload_n 2, 1) := by decide +kernel
theorem dX8_in_2 : decode cX8_in 2 = .ok (.lcmp, 1) := by decide +kernel
theorem dX8_in_3 : decode cX8_in 3 = .ok (.ifCond .lt 14, 3) := by decide +kernel
theorem dX8_in_6 : decode cX8_in 6 = .ok (.lload_n 0, 1) := by decide +kernel
theorem dX8_in_7 : decode cX8_in 7 = .ok (.lload 4, 2) := by decide +kernel
theorem dX8_in_9 : decode cX8_in 9 = .ok (.lcmp, 1) := by decide +kernel
theorem dX8_in_10 : decode cX8_in 10 = .ok (.ifCond .gt 7, 3) := by decide +kernel
theorem dX8_in_13 : decode cX8_in 13 = .ok (.iconst 1, 1) := by decide +kernel
theorem dX8_in_14 : decode cX8_in 14 = .ok (.goto 4, 3) := by decide +kernel
theorem dX8_in_17 : decode cX8_in 17 = .ok (.iconst 0, 1) := by decide +kernel
theorem dX8_in_18 : decode cX8_in 18 = .ok (.ireturn, 1) := by decide +kernel
theorem dX8_isPerson_0 : decode cX8_isPerson 0 = .ok (.lload_n 1, 1) := by decide +kernel
theorem dX8_isPerson_1 : decode cX8_isPerson 1 = .ok (.lconst 0, 1) := by decide +kernel
theorem dX8_isPerson_2 : decode cX8_isPerson 2 = .ok (.aload_n 0, 1) := by decide +kernel
theorem dX8_isPerson_3 : decode cX8_isPerson 3 = .ok (.getfield 88, 3) := by decide +kernel
theorem dX8_isPerson_6 : decode cX8_isPerson 6 = .ok (.iconst 1, 1) := by decide +kernel
theorem dX8_isPerson_7 : decode cX8_isPerson 7 = .ok (.isub, 1) := by decide +kernel
theorem dX8_isPerson_8 : decode cX8_isPerson 8 = .ok (.i2l, 1) := by decide +kernel
theorem dX8_isPerson_9 : decode cX8_isPerson 9 = .ok (.invokestatic 91, 3) := by decide +kernel
theorem dX8_isPerson_12 : decode cX8_isPerson 12 = .ok (.ireturn, 1) := by decide +kernel
theorem dX8_row_0 : decode cX8_row 0 = .ok (.iload_n 1, 1) := by decide +kernel
theorem dX8_row_1 : decode cX8_row 1 = .ok (.i2l, 1) := by decide +kernel
theorem dX8_row_2 : decode cX8_row 2 = .ok (.lconst 0, 1) := by decide +kernel
theorem dX8_row_3 : decode cX8_row 3 = .ok (.ldc2_w 95, 3) := by decide +kernel
theorem dX8_row_6 : decode cX8_row 6 = .ok (.invokestatic 91, 3) := by decide +kernel
theorem dX8_row_9 : decode cX8_row 9 = .ok (.ifCond .eq 27, 3) := by decide +kernel
theorem dX8_row_12 : decode cX8_row 12 = .ok (.iload_n 2, 1) := by decide +kernel
theorem dX8_row_13 : decode cX8_row 13 = .ok (.i2l, 1) := by decide +kernel
theorem dX8_row_14 : decode cX8_row 14 = .ok (.lconst 0, 1) := by decide +kernel
theorem dX8_row_15 : decode cX8_row 15 = .ok (.ldc2_w 97, 3) := by decide +kernel
theorem dX8_row_18 : decode cX8_row 18 = .ok (.invokestatic 91, 3) := by decide +kernel
theorem dX8_row_21 : decode cX8_row 21 = .ok (.ifCond .eq 15, 3) := by decide +kernel
theorem dX8_row_24 : decode cX8_row 24 = .ok (.iload_n 3, 1) := by decide +kernel
theorem dX8_row_25 : decode cX8_row 25 = .ok (.i2l, 1) := by decide +kernel
theorem dX8_row_26 : decode cX8_row 26 = .ok (.lconst 0, 1) := by decide +kernel
theorem dX8_row_27 : decode cX8_row 27 = .ok (.ldc2_w 99, 3) := by decide +kernel
theorem dX8_row_30 : decode cX8_row 30 = .ok (.invokestatic 91, 3) := by decide +kernel
theorem dX8_row_33 : decode cX8_row 33 = .ok (.ifCond .ne 10, 3) := by decide +kernel
theorem dX8_row_36 : decode cX8_row 36 = .ok (.aload_n 0, 1) := by decide +kernel
theorem dX8_row_37 : decode cX8_row 37 = .ok (.bipush (-2), 2) := by decide +kernel
theorem dX8_row_39 : decode cX8_row 39 = .ok (.invokevirtual 101, 3) := by decide +kernel
theorem dX8_row_42 : decode cX8_row 42 = .ok (.ireturn, 1) := by decide +kernel
theorem dX8_row_43 : decode cX8_row 43 = .ok (.aload_n 0, 1) := by decide +kernel
theorem dX8_row_44 : decode cX8_row 44 = .ok (.getfield 7, 3) := by decide +kernel
theorem dX8_row_47 : decode cX8_row 47 = .ok (.iload_n 1, 1) := by decide +kernel
theorem dX8_row_48 : decode cX8_row 48 = .ok (.iconst 1, 1) := by decide +kernel
theorem dX8_row_49 : decode cX8_row 49 = .ok (.iastore, 1) := by decide +kernel
theorem dX8_row_50 : decode cX8_row 50 = .ok (.aload_n 0, 1) := by decide +kernel
theorem dX8_row_51 : decode cX8_row 51 = .ok (.getfield 13, 3) := by decide +kernel
theorem dX8_row_54 : decode cX8_row 54 = .ok (.iload_n 1, 1) := by decide +kernel
theorem dX8_row_55 : decode cX8_row 55 = .ok (.iload_n 2, 1) := by decide +kernel
theorem dX8_row_56 : decode cX8_row 56 = .ok (.iastore, 1) := by decide +kernel
theorem dX8_row_57 : decode cX8_row 57 = .ok (.aload_n 0, 1) := by decide +kernel
theorem dX8_row_58 : decode cX8_row 58 = .ok (.getfield 16, 3) := by decide +kernel
theorem dX8_row_61 : decode cX8_row 61 = .ok (.iload_n 1, 1) := by decide +kernel
theorem dX8_row_62 : decode cX8_row 62 = .ok (.iload_n 3, 1) := by decide +kernel
theorem dX8_row_63 : decode cX8_row 63 = .ok (.iastore, 1) := by decide +kernel
theorem dX8_row_64 : decode cX8_row 64 = .ok (.iconst 0, 1) := by decide +kernel
theorem dX8_row_65 : decode cX8_row 65 = .ok (.istore 4, 2) := by decide +kernel
theorem dX8_row_67 : decode cX8_row 67 = .ok (.iload 4, 2) := by decide +kernel
theorem dX8_row_69 : decode cX8_row 69 = .ok (.bipush 40, 2) := by decide +kernel
theorem dX8_row_71 : decode cX8_row 71 = .ok (.if_icmp .ge 19, 3) := by decide +kernel
theorem dX8_row_74 : decode cX8_row 74 = .ok (.aload_n 0, 1) := by decide +kernel
theorem dX8_row_75 : decode cX8_row 75 = .ok (.getfield 21, 3) := by decide +kernel
theorem dX8_row_78 : decode cX8_row 78 = .ok (.iload_n 1, 1) := by decide +kernel
theorem dX8_row_79 : decode cX8_row 79 = .ok (.aaload, 1) := by decide +kernel
theorem dX8_row_80 : decode cX8_row 80 = .ok (.iload 4, 2) := by decide +kernel
theorem dX8_row_82 : decode cX8_row 82 = .ok (.lconst 0, 1) := by decide +kernel
theorem dX8_row_83 : decode cX8_row 83 = .ok (.lastore, 1) := by decide +kernel
theorem dX8_row_84 : decode cX8_row 84 = .ok (.iinc 4 1, 3) := by decide +kernel
theorem dX8_row_87 : decode cX8_row 87 = .ok (.goto (-20), 3) := by decide +kernel
theorem dX8_row_90 : decode cX8_row 90 = .ok (.iconst 1, 1) := by decide +kernel
theorem dX8_row_91 : decode cX8_row 91 = .ok (.ireturn, 1) := by decide +kernel
theorem dX8_fit_0 : decode cX8_fit 0 = .ok (.iload_n 0, 1) := by decide +kernel
theorem dX8_fit_1 : decode cX8_fit 1 = .ok (.tableswitch 47 0 3 #[31, 36, 41, 45], 31) := by decide +kernel
theorem dX8_fit_32 : decode cX8_fit 32 = .ok (.lload_n 1, 1) := by decide +kernel
theorem dX8_fit_33 : decode cX8_fit 33 = .ok (.l2i, 1) := by decide +kernel
theorem dX8_fit_34 : decode cX8_fit 34 = .ok (.i2b, 1) := by decide +kernel
theorem dX8_fit_35 : decode cX8_fit 35 = .ok (.i2l, 1) := by decide +kernel
theorem dX8_fit_36 : decode cX8_fit 36 = .ok (.lreturn, 1) := by decide +kernel
theorem dX8_fit_37 : decode cX8_fit 37 = .ok (.lload_n 1, 1) := by decide +kernel
theorem dX8_fit_38 : decode cX8_fit 38 = .ok (.l2i, 1) := by decide +kernel
theorem dX8_fit_39 : decode cX8_fit 39 = .ok (.i2s, 1) := by decide +kernel
theorem dX8_fit_40 : decode cX8_fit 40 = .ok (.i2l, 1) := by decide +kernel
theorem dX8_fit_41 : decode cX8_fit 41 = .ok (.lreturn, 1) := by decide +kernel
theorem dX8_fit_42 : decode cX8_fit 42 = .ok (.lload_n 1, 1) := by decide +kernel
theorem dX8_fit_43 : decode cX8_fit 43 = .ok (.l2i, 1) := by decide +kernel
theorem dX8_fit_44 : decode cX8_fit 44 = .ok (.i2l, 1) := by decide +kernel
theorem dX8_fit_45 : decode cX8_fit 45 = .ok (.lreturn, 1) := by decide +kernel
theorem dX8_fit_46 : decode cX8_fit 46 = .ok (.lload_n 1, 1) := by decide +kernel
theorem dX8_fit_47 : decode cX8_fit 47 = .ok (.lreturn, 1) := by decide +kernel
theorem dX8_fit_48 : decode cX8_fit 48 = .ok (.lload_n 1, 1) := by decide +kernel
theorem dX8_fit_49 : decode cX8_fit 49 = .ok (.lconst 0, 1) := by decide +kernel
theorem dX8_fit_50 : decode cX8_fit 50 = .ok (.lcmp, 1) := by decide +kernel
theorem dX8_fit_51 : decode cX8_fit 51 = .ok (.ifCond .eq 7, 3) := by decide +kernel
theorem dX8_fit_54 : decode cX8_fit 54 = .ok (.lconst 1, 1) := by decide +kernel
theorem dX8_fit_55 : decode cX8_fit 55 = .ok (.goto 4, 3) := by decide +kernel
theorem dX8_fit_58 : decode cX8_fit 58 = .ok (.lconst 0, 1) := by decide +kernel
theorem dX8_fit_59 : decode cX8_fit 59 = .ok (.lreturn, 1) := by decide +kernel
theorem dX8_noRow_0 : decode cX8_noRow 0 = .ok (.iload_n 1, 1) := by decide +kernel
theorem dX8_noRow_1 : decode cX8_noRow 1 = .ok (.i2l, 1) := by decide +kernel
theorem dX8_noRow_2 : decode cX8_noRow 2 = .ok (.lconst 0, 1) := by decide +kernel
theorem dX8_noRow_3 : decode cX8_noRow 3 = .ok (.ldc2_w 95, 3) := by decide +kernel
theorem dX8_noRow_6 : decode cX8_noRow 6 = .ok (.invokestatic 91, 3) := by decide +kernel
theorem dX8_noRow_9 : decode cX8_noRow 9 = .ok (.ifCond .ne 10, 3) := by decide +kernel
theorem dX8_noRow_12 : decode cX8_noRow 12 = .ok (.aload_n 0, 1) := by decide +kernel
theorem dX8_noRow_13 : decode cX8_noRow 13 = .ok (.bipush (-2), 2) := by decide +kernel
theorem dX8_noRow_15 : decode cX8_noRow 15 = .ok (.invokevirtual 101, 3) := by decide +kernel
theorem dX8_noRow_18 : decode cX8_noRow 18 = .ok (.ireturn, 1) := by decide +kernel
theorem dX8_noRow_19 : decode cX8_noRow 19 = .ok (.aload_n 0, 1) := by decide +kernel
theorem dX8_noRow_20 : decode cX8_noRow 20 = .ok (.getfield 7, 3) := by decide +kernel
theorem dX8_noRow_23 : decode cX8_noRow 23 = .ok (.iload_n 1, 1) := by decide +kernel
theorem dX8_noRow_24 : decode cX8_noRow 24 = .ok (.iaload, 1) := by decide +kernel
theorem dX8_noRow_25 : decode cX8_noRow 25 = .ok (.iconst 2, 1) := by decide +kernel
theorem dX8_noRow_26 : decode cX8_noRow 26 = .ok (.if_icmp .ne 10, 3) := by decide +kernel
theorem dX8_noRow_29 : decode cX8_noRow 29 = .ok (.aload_n 0, 1) := by decide +kernel
theorem dX8_noRow_30 : decode cX8_noRow 30 = .ok (.bipush (-3), 2) := by decide +kernel
theorem dX8_noRow_32 : decode cX8_noRow 32 = .ok (.invokevirtual 101, 3) := by decide +kernel
theorem dX8_noRow_35 : decode cX8_noRow 35 = .ok (.ireturn, 1) := by decide +kernel
theorem dX8_noRow_36 : decode cX8_noRow 36 = .ok (.aload_n 0, 1) := by decide +kernel
theorem dX8_noRow_37 : decode cX8_noRow 37 = .ok (.getfield 7, 3) := by decide +kernel
theorem dX8_noRow_40 : decode cX8_noRow 40 = .ok (.iload_n 1, 1) := by decide +kernel
theorem dX8_noRow_41 : decode cX8_noRow 41 = .ok (.iaload, 1) := by decide +kernel
theorem dX8_noRow_42 : decode cX8_noRow 42 = .ok (.ifCond .ne 12, 3) := by decide +kernel
theorem dX8_noRow_45 : decode cX8_noRow 45 = .ok (.aload_n 0, 1) := by decide +kernel
theorem dX8_noRow_46 : decode cX8_noRow 46 = .ok (.bipush (-4), 2) := by decide +kernel
theorem dX8_noRow_48 : decode cX8_noRow 48 = .ok (.invokevirtual 101, 3) := by decide +kernel
theorem dX8_noRow_51 : decode cX8_noRow 51 = .ok (.goto 4, 3) := by decide +kernel
theorem dX8_noRow_54 : decode cX8_noRow 54 = .ok (.iconst 0, 1) := by decide +kernel
theorem dX8_noRow_55 : decode cX8_noRow 55 = .ok (.ireturn, 1) := by decide +kernel
theorem dX8_set_0 : decode cX8_set 0 = .ok (.aload_n 0, 1) := by decide +kernel
theorem dX8_set_1 : decode cX8_set 1 = .ok (.iload_n 1, 1) := by decide +kernel
theorem dX8_set_2 : decode cX8_set 2 = .ok (.invokevirtual 105, 3) := by decide +kernel
theorem dX8_set_5 : decode cX8_set 5 = .ok (.istore 5, 2) := by decide +kernel
theorem dX8_set_7 : decode cX8_set 7 = .ok (.iload 5, 2) := by decide +kernel
theorem dX8_set_9 : decode cX8_set 9 = .ok (.ifCond .eq 6, 3) := by decide +kernel
theorem dX8_set_12 : decode cX8_set 12 = .ok (.iload 5, 2) := by decide +kernel
theorem dX8_set_14 : decode cX8_set 14 = .ok (.ireturn, 1) := by decide +kernel
theorem dX8_set_15 : decode cX8_set 15 = .ok (.iload_n 2, 1) := by decide +kernel
theorem dX8_set_16 : decode cX8_set 16 = .ok (.i2l, 1) := by decide +kernel
theorem dX8_set_17 : decode cX8_set 17 = .ok (.lconst 0, 1) := by decide +kernel
theorem dX8_set_18 : decode cX8_set 18 = .ok (.aload_n 0, 1) := by decide +kernel
theorem dX8_set_19 : decode cX8_set 19 = .ok (.getfield 16, 3) := by decide +kernel
theorem dX8_set_22 : decode cX8_set 22 = .ok (.iload_n 1, 1) := by decide +kernel
theorem dX8_set_23 : decode cX8_set 23 = .ok (.iaload, 1) := by decide +kernel
theorem dX8_set_24 : decode cX8_set 24 = .ok (.iconst 1, 1) := by decide +kernel
theorem dX8_set_25 : decode cX8_set 25 = .ok (.isub, 1) := by decide +kernel
theorem dX8_set_26 : decode cX8_set 26 = .ok (.i2l, 1) := by decide +kernel
theorem dX8_set_27 : decode cX8_set 27 = .ok (.invokestatic 91, 3) := by decide +kernel
theorem dX8_set_30 : decode cX8_set 30 = .ok (.ifCond .ne 10, 3) := by decide +kernel
theorem dX8_set_33 : decode cX8_set 33 = .ok (.aload_n 0, 1) := by decide +kernel
theorem dX8_set_34 : decode cX8_set 34 = .ok (.bipush (-2), 2) := by decide +kernel
theorem dX8_set_36 : decode cX8_set 36 = .ok (.invokevirtual 101, 3) := by decide +kernel
theorem dX8_set_39 : decode cX8_set 39 = .ok (.ireturn, 1) := by decide +kernel
theorem dX8_set_40 : decode cX8_set 40 = .ok (.aload_n 0, 1) := by decide +kernel
theorem dX8_set_41 : decode cX8_set 41 = .ok (.getfield 21, 3) := by decide +kernel
theorem dX8_set_44 : decode cX8_set 44 = .ok (.iload_n 1, 1) := by decide +kernel
theorem dX8_set_45 : decode cX8_set 45 = .ok (.aaload, 1) := by decide +kernel
theorem dX8_set_46 : decode cX8_set 46 = .ok (.iload_n 2, 1) := by decide +kernel
theorem dX8_set_47 : decode cX8_set 47 = .ok (.aload_n 0, 1) := by decide +kernel
theorem dX8_set_48 : decode cX8_set 48 = .ok (.getfield 13, 3) := by decide +kernel
theorem dX8_set_51 : decode cX8_set 51 = .ok (.iload_n 1, 1) := by decide +kernel
theorem dX8_set_52 : decode cX8_set 52 = .ok (.iaload, 1) := by decide +kernel
theorem dX8_set_53 : decode cX8_set 53 = .ok (.lload_n 3, 1) := by decide +kernel
theorem dX8_set_54 : decode cX8_set 54 = .ok (.invokestatic 108, 3) := by decide +kernel
theorem dX8_set_57 : decode cX8_set 57 = .ok (.lastore, 1) := by decide +kernel
theorem dX8_set_58 : decode cX8_set 58 = .ok (.iconst 1, 1) := by decide +kernel
theorem dX8_set_59 : decode cX8_set 59 = .ok (.ireturn, 1) := by decide +kernel
theorem dX8_copy_0 : decode cX8_copy 0 = .ok (.iload_n 1, 1) := by decide +kernel
theorem dX8_copy_1 : decode cX8_copy 1 = .ok (.i2l, 1) := by decide +kernel
theorem dX8_copy_2 : decode cX8_copy 2 = .ok (.lconst 0, 1) := by decide +kernel
theorem dX8_copy_3 : decode cX8_copy 3 = .ok (.ldc2_w 95, 3) := by decide +kernel
theorem dX8_copy_6 : decode cX8_copy 6 = .ok (.invokestatic 91, 3) := by decide +kernel
theorem dX8_copy_9 : decode cX8_copy 9 = .ok (.ifCond .eq 15, 3) := by decide +kernel
theorem dX8_copy_12 : decode cX8_copy 12 = .ok (.iload_n 2, 1) := by decide +kernel
theorem dX8_copy_13 : decode cX8_copy 13 = .ok (.i2l, 1) := by decide +kernel
theorem dX8_copy_14 : decode cX8_copy 14 = .ok (.lconst 0, 1) := by decide +kernel
theorem dX8_copy_15 : decode cX8_copy 15 = .ok (.ldc2_w 95, 3) := by decide +kernel
theorem dX8_copy_18 : decode cX8_copy 18 = .ok (.invokestatic 91, 3) := by decide +kernel
theorem dX8_copy_21 : decode cX8_copy 21 = .ok (.ifCond .ne 10, 3) := by decide +kernel
theorem dX8_copy_24 : decode cX8_copy 24 = .ok (.aload_n 0, 1) := by decide +kernel
theorem dX8_copy_25 : decode cX8_copy 25 = .ok (.bipush (-2), 2) := by decide +kernel
theorem dX8_copy_27 : decode cX8_copy 27 = .ok (.invokevirtual 101, 3) := by decide +kernel
theorem dX8_copy_30 : decode cX8_copy 30 = .ok (.ireturn, 1) := by decide +kernel
theorem dX8_copy_31 : decode cX8_copy 31 = .ok (.aload_n 0, 1) := by decide +kernel
theorem dX8_copy_32 : decode cX8_copy 32 = .ok (.getfield 7, 3) := by decide +kernel
theorem dX8_copy_35 : decode cX8_copy 35 = .ok (.iload_n 1, 1) := by decide +kernel
theorem dX8_copy_36 : decode cX8_copy 36 = .ok (.iaload, 1) := by decide +kernel
theorem dX8_copy_37 : decode cX8_copy 37 = .ok (.iconst 2, 1) := by decide +kernel
theorem dX8_copy_38 : decode cX8_copy 38 = .ok (.if_icmp .eq 48, 3) := by decide +kernel
theorem dX8_copy_41 : decode cX8_copy 41 = .ok (.aload_n 0, 1) := by decide +kernel
theorem dX8_copy_42 : decode cX8_copy 42 = .ok (.getfield 7, 3) := by decide +kernel
theorem dX8_copy_45 : decode cX8_copy 45 = .ok (.iload_n 2, 1) := by decide +kernel
theorem dX8_copy_46 : decode cX8_copy 46 = .ok (.iaload, 1) := by decide +kernel
theorem dX8_copy_47 : decode cX8_copy 47 = .ok (.iconst 2, 1) := by decide +kernel
theorem dX8_copy_48 : decode cX8_copy 48 = .ok (.if_icmp .eq 38, 3) := by decide +kernel
theorem dX8_copy_51 : decode cX8_copy 51 = .ok (.aload_n 0, 1) := by decide +kernel
theorem dX8_copy_52 : decode cX8_copy 52 = .ok (.getfield 7, 3) := by decide +kernel
theorem dX8_copy_55 : decode cX8_copy 55 = .ok (.iload_n 1, 1) := by decide +kernel
theorem dX8_copy_56 : decode cX8_copy 56 = .ok (.iaload, 1) := by decide +kernel
theorem dX8_copy_57 : decode cX8_copy 57 = .ok (.iconst 1, 1) := by decide +kernel
theorem dX8_copy_58 : decode cX8_copy 58 = .ok (.if_icmp .ne 35, 3) := by decide +kernel
theorem dX8_copy_61 : decode cX8_copy 61 = .ok (.aload_n 0, 1) := by decide +kernel
theorem dX8_copy_62 : decode cX8_copy 62 = .ok (.getfield 7, 3) := by decide +kernel
theorem dX8_copy_65 : decode cX8_copy 65 = .ok (.iload_n 2, 1) := by decide +kernel
theorem dX8_copy_66 : decode cX8_copy 66 = .ok (.iaload, 1) := by decide +kernel
theorem dX8_copy_67 : decode cX8_copy 67 = .ok (.iconst 1, 1) := by decide +kernel
theorem dX8_copy_68 : decode cX8_copy 68 = .ok (.if_icmp .ne 25, 3) := by decide +kernel
theorem dX8_copy_71 : decode cX8_copy 71 = .ok (.aload_n 0, 1) := by decide +kernel
theorem dX8_copy_72 : decode cX8_copy 72 = .ok (.getfield 13, 3) := by decide +kernel
theorem dX8_copy_75 : decode cX8_copy 75 = .ok (.iload_n 1, 1) := by decide +kernel
theorem dX8_copy_76 : decode cX8_copy 76 = .ok (.iaload, 1) := by decide +kernel
theorem dX8_copy_77 : decode cX8_copy 77 = .ok (.aload_n 0, 1) := by decide +kernel
theorem dX8_copy_78 : decode cX8_copy 78 = .ok (.getfield 13, 3) := by decide +kernel
theorem dX8_copy_81 : decode cX8_copy 81 = .ok (.iload_n 2, 1) := by decide +kernel
theorem dX8_copy_82 : decode cX8_copy 82 = .ok (.iaload, 1) := by decide +kernel
theorem dX8_copy_83 : decode cX8_copy 83 = .ok (.if_icmp .eq 10, 3) := by decide +kernel
theorem dX8_copy_86 : decode cX8_copy 86 = .ok (.aload_n 0, 1) := by decide +kernel
theorem dX8_copy_87 : decode cX8_copy 87 = .ok (.bipush (-3), 2) := by decide +kernel
theorem dX8_copy_89 : decode cX8_copy 89 = .ok (.invokevirtual 101, 3) := by decide +kernel
theorem dX8_copy_92 : decode cX8_copy 92 = .ok (.ireturn, 1) := by decide +kernel
theorem dX8_copy_93 : decode cX8_copy 93 = .ok (.aload_n 0, 1) := by decide +kernel
theorem dX8_copy_94 : decode cX8_copy 94 = .ok (.getfield 7, 3) := by decide +kernel
theorem dX8_copy_97 : decode cX8_copy 97 = .ok (.iload_n 1, 1) := by decide +kernel
theorem dX8_copy_98 : decode cX8_copy 98 = .ok (.iaload, 1) := by decide +kernel
theorem dX8_copy_99 : decode cX8_copy 99 = .ok (.ifCond .eq 12, 3) := by decide +kernel
theorem dX8_copy_102 : decode cX8_copy 102 = .ok (.aload_n 0, 1) := by decide +kernel
theorem dX8_copy_103 : decode cX8_copy 103 = .ok (.getfield 7, 3) := by decide +kernel
theorem dX8_copy_106 : decode cX8_copy 106 = .ok (.iload_n 2, 1) := by decide +kernel
theorem dX8_copy_107 : decode cX8_copy 107 = .ok (.iaload, 1) := by decide +kernel
theorem dX8_copy_108 : decode cX8_copy 108 = .ok (.ifCond .ne 10, 3) := by decide +kernel
theorem dX8_copy_111 : decode cX8_copy 111 = .ok (.aload_n 0, 1) := by decide +kernel
theorem dX8_copy_112 : decode cX8_copy 112 = .ok (.bipush (-4), 2) := by decide +kernel
theorem dX8_copy_114 : decode cX8_copy 114 = .ok (.invokevirtual 101, 3) := by decide +kernel
theorem dX8_copy_117 : decode cX8_copy 117 = .ok (.ireturn, 1) := by decide +kernel
theorem dX8_copy_118 : decode cX8_copy 118 = .ok (.iload 5, 2) := by decide +kernel
theorem dX8_copy_120 : decode cX8_copy 120 = .ok (.ifCond .lt 61, 3) := by decide +kernel
theorem dX8_copy_123 : decode cX8_copy 123 = .ok (.iload_n 3, 1) := by decide +kernel
theorem dX8_copy_124 : decode cX8_copy 124 = .ok (.ifCond .lt 57, 3) := by decide +kernel
theorem dX8_copy_127 : decode cX8_copy 127 = .ok (.iload 4, 2) := by decide +kernel
theorem dX8_copy_129 : decode cX8_copy 129 = .ok (.ifCond .lt 52, 3) := by decide +kernel
theorem dX8_copy_132 : decode cX8_copy 132 = .ok (.iload 5, 2) := by decide +kernel
theorem dX8_copy_134 : decode cX8_copy 134 = .ok (.aload_n 0, 1) := by decide +kernel
theorem dX8_copy_135 : decode cX8_copy 135 = .ok (.getfield 16, 3) := by decide +kernel
theorem dX8_copy_138 : decode cX8_copy 138 = .ok (.iload_n 1, 1) := by decide +kernel
theorem dX8_copy_139 : decode cX8_copy 139 = .ok (.iaload, 1) := by decide +kernel
theorem dX8_copy_140 : decode cX8_copy 140 = .ok (.if_icmp .gt 41, 3) := by decide +kernel
theorem dX8_copy_143 : decode cX8_copy 143 = .ok (.iload 5, 2) := by decide +kernel
theorem dX8_copy_145 : decode cX8_copy 145 = .ok (.aload_n 0, 1) := by decide +kernel
theorem dX8_copy_146 : decode cX8_copy 146 = .ok (.getfield 16, 3) := by decide +kernel
theorem dX8_copy_149 : decode cX8_copy 149 = .ok (.iload_n 2, 1) := by decide +kernel
theorem dX8_copy_150 : decode cX8_copy 150 = .ok (.iaload, 1) := by decide +kernel
theorem dX8_copy_151 : decode cX8_copy 151 = .ok (.if_icmp .gt 30, 3) := by decide +kernel
theorem dX8_copy_154 : decode cX8_copy 154 = .ok (.iload_n 3, 1) := by decide +kernel
theorem dX8_copy_155 : decode cX8_copy 155 = .ok (.aload_n 0, 1) := by decide +kernel
theorem dX8_copy_156 : decode cX8_copy 156 = .ok (.getfield 16, 3) := by decide +kernel
theorem dX8_copy_159 : decode cX8_copy 159 = .ok (.iload_n 1, 1) := by decide +kernel
theorem dX8_copy_160 : decode cX8_copy 160 = .ok (.iaload, 1) := by decide +kernel
theorem dX8_copy_161 : decode cX8_copy 161 = .ok (.iload 5, 2) := by decide +kernel
theorem dX8_copy_163 : decode cX8_copy 163 = .ok (.isub, 1) := by decide +kernel
theorem dX8_copy_164 : decode cX8_copy 164 = .ok (.if_icmp .gt 17, 3) := by decide +kernel
theorem dX8_copy_167 : decode cX8_copy 167 = .ok (.iload 4, 2) := by decide +kernel
theorem dX8_copy_169 : decode cX8_copy 169 = .ok (.aload_n 0, 1) := by decide +kernel
theorem dX8_copy_170 : decode cX8_copy 170 = .ok (.getfield 16, 3) := by decide +kernel
theorem dX8_copy_173 : decode cX8_copy 173 = .ok (.iload_n 2, 1) := by decide +kernel
theorem dX8_copy_174 : decode cX8_copy 174 = .ok (.iaload, 1) := by decide +kernel
theorem dX8_copy_175 : decode cX8_copy 175 = .ok (.iload 5, 2) := by decide +kernel
theorem dX8_copy_177 : decode cX8_copy 177 = .ok (.isub, 1) := by decide +kernel
theorem dX8_copy_178 : decode cX8_copy 178 = .ok (.if_icmp .le 10, 3) := by decide +kernel
theorem dX8_copy_181 : decode cX8_copy 181 = .ok (.aload_n 0, 1) := by decide +kernel
theorem dX8_copy_182 : decode cX8_copy 182 = .ok (.bipush (-2), 2) := by decide +kernel
theorem dX8_copy_184 : decode cX8_copy 184 = .ok (.invokevirtual 101, 3) := by decide +kernel
theorem dX8_copy_187 : decode cX8_copy 187 = .ok (.ireturn, 1) := by decide +kernel
theorem dX8_copy_188 : decode cX8_copy 188 = .ok (.iconst 0, 1) := by decide +kernel
theorem dX8_copy_189 : decode cX8_copy 189 = .ok (.istore 6, 2) := by decide +kernel
theorem dX8_copy_191 : decode cX8_copy 191 = .ok (.iload 6, 2) := by decide +kernel
theorem dX8_copy_193 : decode cX8_copy 193 = .ok (.iload 5, 2) := by decide +kernel
theorem dX8_copy_195 : decode cX8_copy 195 = .ok (.if_icmp .ge 27, 3) := by decide +kernel
theorem dX8_copy_198 : decode cX8_copy 198 = .ok (.aload_n 0, 1) := by decide +kernel
theorem dX8_copy_199 : decode cX8_copy 199 = .ok (.getfield 24, 3) := by decide +kernel
theorem dX8_copy_202 : decode cX8_copy 202 = .ok (.iload 6, 2) := by decide +kernel
theorem dX8_copy_204 : decode cX8_copy 204 = .ok (.aload_n 0, 1) := by decide +kernel
theorem dX8_copy_205 : decode cX8_copy 205 = .ok (.getfield 21, 3) := by decide +kernel
theorem dX8_copy_208 : decode cX8_copy 208 = .ok (.iload_n 1, 1) := by decide +kernel
theorem dX8_copy_209 : decode cX8_copy 209 = .ok (.aaload, 1) := by decide +kernel
theorem dX8_copy_210 : decode cX8_copy 210 = .ok (.iload_n 3, 1) := by decide +kernel
theorem dX8_copy_211 : decode cX8_copy 211 = .ok (.iload 6, 2) := by decide +kernel
theorem dX8_copy_213 : decode cX8_copy 213 = .ok (.iadd, 1) := by decide +kernel
theorem dX8_copy_214 : decode cX8_copy 214 = .ok (.laload, 1) := by decide +kernel
theorem dX8_copy_215 : decode cX8_copy 215 = .ok (.lastore, 1) := by decide +kernel
theorem dX8_copy_216 : decode cX8_copy 216 = .ok (.iinc 6 1, 3) := by decide +kernel
theorem dX8_copy_219 : decode cX8_copy 219 = .ok (.goto (-28), 3) := by decide +kernel
theorem dX8_copy_222 : decode cX8_copy 222 = .ok (.iconst 0, 1) := by decide +kernel
theorem dX8_copy_223 : decode cX8_copy 223 = .ok (.istore 6, 2) := by decide +kernel
theorem dX8_copy_225 : decode cX8_copy 225 = .ok (.iload 6, 2) := by decide +kernel
theorem dX8_copy_227 : decode cX8_copy 227 = .ok (.iload 5, 2) := by decide +kernel
theorem dX8_copy_229 : decode cX8_copy 229 = .ok (.if_icmp .ge 28, 3) := by decide +kernel
theorem dX8_copy_232 : decode cX8_copy 232 = .ok (.aload_n 0, 1) := by decide +kernel
theorem dX8_copy_233 : decode cX8_copy 233 = .ok (.getfield 21, 3) := by decide +kernel
theorem dX8_copy_236 : decode cX8_copy 236 = .ok (.iload_n 2, 1) := by decide +kernel
theorem dX8_copy_237 : decode cX8_copy 237 = .ok (.aaload, 1) := by decide +kernel
theorem dX8_copy_238 : decode cX8_copy 238 = .ok (.iload 4, 2) := by decide +kernel
theorem dX8_copy_240 : decode cX8_copy 240 = .ok (.iload 6, 2) := by decide +kernel
theorem dX8_copy_242 : decode cX8_copy 242 = .ok (.iadd, 1) := by decide +kernel
theorem dX8_copy_243 : decode cX8_copy 243 = .ok (.aload_n 0, 1) := by decide +kernel
theorem dX8_copy_244 : decode cX8_copy 244 = .ok (.getfield 24, 3) := by decide +kernel
theorem dX8_copy_247 : decode cX8_copy 247 = .ok (.iload 6, 2) := by decide +kernel
theorem dX8_copy_249 : decode cX8_copy 249 = .ok (.laload, 1) := by decide +kernel
theorem dX8_copy_250 : decode cX8_copy 250 = .ok (.lastore, 1) := by decide +kernel
theorem dX8_copy_251 : decode cX8_copy 251 = .ok (.iinc 6 1, 3) := by decide +kernel
theorem dX8_copy_254 : decode cX8_copy 254 = .ok (.goto (-29), 3) := by decide +kernel
theorem dX8_copy_257 : decode cX8_copy 257 = .ok (.iload 5, 2) := by decide +kernel
theorem dX8_copy_259 : decode cX8_copy 259 = .ok (.ireturn, 1) := by decide +kernel
theorem dX8_element_0 : decode cX8_element 0 = .ok (.iload_n 1, 1) := by decide +kernel
theorem dX8_element_1 : decode cX8_element 1 = .ok (.i2l, 1) := by decide +kernel
theorem dX8_element_2 : decode cX8_element 2 = .ok (.lconst 0, 1) := by decide +kernel
theorem dX8_element_3 : decode cX8_element 3 = .ok (.ldc2_w 95, 3) := by decide +kernel
theorem dX8_element_6 : decode cX8_element 6 = .ok (.invokestatic 91, 3) := by decide +kernel
theorem dX8_element_9 : decode cX8_element 9 = .ok (.ifCond .eq 42, 3) := by decide +kernel
theorem dX8_element_12 : decode cX8_element 12 = .ok (.aload_n 0, 1) := by decide +kernel
theorem dX8_element_13 : decode cX8_element 13 = .ok (.getfield 7, 3) := by decide +kernel
theorem dX8_element_16 : decode cX8_element 16 = .ok (.iload_n 1, 1) := by decide +kernel
theorem dX8_element_17 : decode cX8_element 17 = .ok (.iaload, 1) := by decide +kernel
theorem dX8_element_18 : decode cX8_element 18 = .ok (.iconst 1, 1) := by decide +kernel
theorem dX8_element_19 : decode cX8_element 19 = .ok (.if_icmp .ne 32, 3) := by decide +kernel
theorem dX8_element_22 : decode cX8_element 22 = .ok (.iload_n 2, 1) := by decide +kernel
theorem dX8_element_23 : decode cX8_element 23 = .ok (.i2l, 1) := by decide +kernel
theorem dX8_element_24 : decode cX8_element 24 = .ok (.lconst 0, 1) := by decide +kernel
theorem dX8_element_25 : decode cX8_element 25 = .ok (.aload_n 0, 1) := by decide +kernel
theorem dX8_element_26 : decode cX8_element 26 = .ok (.getfield 16, 3) := by decide +kernel
theorem dX8_element_29 : decode cX8_element 29 = .ok (.iload_n 1, 1) := by decide +kernel
theorem dX8_element_30 : decode cX8_element 30 = .ok (.iaload, 1) := by decide +kernel
theorem dX8_element_31 : decode cX8_element 31 = .ok (.iconst 1, 1) := by decide +kernel
theorem dX8_element_32 : decode cX8_element 32 = .ok (.isub, 1) := by decide +kernel
theorem dX8_element_33 : decode cX8_element 33 = .ok (.i2l, 1) := by decide +kernel
theorem dX8_element_34 : decode cX8_element 34 = .ok (.invokestatic 91, 3) := by decide +kernel
theorem dX8_element_37 : decode cX8_element 37 = .ok (.ifCond .eq 14, 3) := by decide +kernel
theorem dX8_element_40 : decode cX8_element 40 = .ok (.aload_n 0, 1) := by decide +kernel
theorem dX8_element_41 : decode cX8_element 41 = .ok (.getfield 21, 3) := by decide +kernel
theorem dX8_element_44 : decode cX8_element 44 = .ok (.iload_n 1, 1) := by decide +kernel
theorem dX8_element_45 : decode cX8_element 45 = .ok (.aaload, 1) := by decide +kernel
theorem dX8_element_46 : decode cX8_element 46 = .ok (.iload_n 2, 1) := by decide +kernel
theorem dX8_element_47 : decode cX8_element 47 = .ok (.laload, 1) := by decide +kernel
theorem dX8_element_48 : decode cX8_element 48 = .ok (.goto 4, 3) := by decide +kernel
theorem dX8_element_51 : decode cX8_element 51 = .ok (.lconst 0, 1) := by decide +kernel
theorem dX8_element_52 : decode cX8_element 52 = .ok (.lreturn, 1) := by decide +kernel
theorem dX8_holds_0 : decode cX8_holds 0 = .ok (.iload_n 1, 1) := by decide +kernel
theorem dX8_holds_1 : decode cX8_holds 1 = .ok (.i2l, 1) := by decide +kernel
theorem dX8_holds_2 : decode cX8_holds 2 = .ok (.lconst 0, 1) := by decide +kernel
theorem dX8_holds_3 : decode cX8_holds 3 = .ok (.ldc2_w 95, 3) := by decide +kernel
theorem dX8_holds_6 : decode cX8_holds 6 = .ok (.invokestatic 91, 3) := by decide +kernel
theorem dX8_holds_9 : decode cX8_holds 9 = .ok (.ifCond .eq 12, 3) := by decide +kernel
theorem dX8_holds_12 : decode cX8_holds 12 = .ok (.aload_n 0, 1) := by decide +kernel
theorem dX8_holds_13 : decode cX8_holds 13 = .ok (.getfield 7, 3) := by decide +kernel
theorem dX8_holds_16 : decode cX8_holds 16 = .ok (.iload_n 1, 1) := by decide +kernel
theorem dX8_holds_17 : decode cX8_holds 17 = .ok (.iaload, 1) := by decide +kernel
theorem dX8_holds_18 : decode cX8_holds 18 = .ok (.ifCond .ne 5, 3) := by decide +kernel
theorem dX8_holds_21 : decode cX8_holds 21 = .ok (.iconst (-1), 1) := by decide +kernel
theorem dX8_holds_22 : decode cX8_holds 22 = .ok (.ireturn, 1) := by decide +kernel
theorem dX8_holds_23 : decode cX8_holds 23 = .ok (.aload_n 0, 1) := by decide +kernel
theorem dX8_holds_24 : decode cX8_holds 24 = .ok (.getfield 7, 3) := by decide +kernel
theorem dX8_holds_27 : decode cX8_holds 27 = .ok (.iload_n 1, 1) := by decide +kernel
theorem dX8_holds_28 : decode cX8_holds 28 = .ok (.iaload, 1) := by decide +kernel
theorem dX8_holds_29 : decode cX8_holds 29 = .ok (.iconst 1, 1) := by decide +kernel
theorem dX8_holds_30 : decode cX8_holds 30 = .ok (.if_icmp .ne 12, 3) := by decide +kernel
theorem dX8_holds_33 : decode cX8_holds 33 = .ok (.aload_n 0, 1) := by decide +kernel
theorem dX8_holds_34 : decode cX8_holds 34 = .ok (.getfield 13, 3) := by decide +kernel
theorem dX8_holds_37 : decode cX8_holds 37 = .ok (.iload_n 1, 1) := by decide +kernel
theorem dX8_holds_38 : decode cX8_holds 38 = .ok (.iaload, 1) := by decide +kernel
theorem dX8_holds_39 : decode cX8_holds 39 = .ok (.goto 12, 3) := by decide +kernel
theorem dX8_holds_42 : decode cX8_holds 42 = .ok (.bipush 10, 2) := by decide +kernel
theorem dX8_holds_44 : decode cX8_holds 44 = .ok (.aload_n 0, 1) := by decide +kernel
theorem dX8_holds_45 : decode cX8_holds 45 = .ok (.getfield 28, 3) := by decide +kernel
theorem dX8_holds_48 : decode cX8_holds 48 = .ok (.iload_n 1, 1) := by decide +kernel
theorem dX8_holds_49 : decode cX8_holds 49 = .ok (.iaload, 1) := by decide +kernel
theorem dX8_holds_50 : decode cX8_holds 50 = .ok (.iadd, 1) := by decide +kernel
theorem dX8_holds_51 : decode cX8_holds 51 = .ok (.ireturn, 1) := by decide +kernel
theorem dX8_show_0 : decode cX8_show 0 = .ok (.iload_n 1, 1) := by decide +kernel
theorem dX8_show_1 : decode cX8_show 1 = .ok (.i2l, 1) := by decide +kernel
theorem dX8_show_2 : decode cX8_show 2 = .ok (.lconst 0, 1) := by decide +kernel
theorem dX8_show_3 : decode cX8_show 3 = .ok (.ldc2_w 95, 3) := by decide +kernel
theorem dX8_show_6 : decode cX8_show 6 = .ok (.invokestatic 91, 3) := by decide +kernel
theorem dX8_show_9 : decode cX8_show 9 = .ok (.ifCond .eq 17, 3) := by decide +kernel
theorem dX8_show_12 : decode cX8_show 12 = .ok (.iload_n 2, 1) := by decide +kernel
theorem dX8_show_13 : decode cX8_show 13 = .ok (.iconst (-1), 1) := by decide +kernel
theorem dX8_show_14 : decode cX8_show 14 = .ok (.if_icmp .eq 19, 3) := by decide +kernel
theorem dX8_show_17 : decode cX8_show 17 = .ok (.aload_n 0, 1) := by decide +kernel
theorem dX8_show_18 : decode cX8_show 18 = .ok (.iload_n 2, 1) := by decide +kernel
theorem dX8_show_19 : decode cX8_show 19 = .ok (.i2l, 1) := by decide +kernel
theorem dX8_show_20 : decode cX8_show 20 = .ok (.invokevirtual 112, 3) := by decide +kernel
theorem dX8_show_23 : decode cX8_show 23 = .ok (.ifCond .ne 10, 3) := by decide +kernel
theorem dX8_show_26 : decode cX8_show 26 = .ok (.aload_n 0, 1) := by decide +kernel
theorem dX8_show_27 : decode cX8_show 27 = .ok (.bipush (-2), 2) := by decide +kernel
theorem dX8_show_29 : decode cX8_show 29 = .ok (.invokevirtual 101, 3) := by decide +kernel
theorem dX8_show_32 : decode cX8_show 32 = .ok (.ireturn, 1) := by decide +kernel
theorem dX8_show_33 : decode cX8_show 33 = .ok (.aload_n 0, 1) := by decide +kernel
theorem dX8_show_34 : decode cX8_show 34 = .ok (.getfield 7, 3) := by decide +kernel
theorem dX8_show_37 : decode cX8_show 37 = .ok (.iload_n 1, 1) := by decide +kernel
theorem dX8_show_38 : decode cX8_show 38 = .ok (.iload_n 2, 1) := by decide +kernel
theorem dX8_show_39 : decode cX8_show 39 = .ok (.iconst (-1), 1) := by decide +kernel
theorem dX8_show_40 : decode cX8_show 40 = .ok (.if_icmp .ne 7, 3) := by decide +kernel
theorem dX8_show_43 : decode cX8_show 43 = .ok (.iconst 0, 1) := by decide +kernel
theorem dX8_show_44 : decode cX8_show 44 = .ok (.goto 4, 3) := by decide +kernel
theorem dX8_show_47 : decode cX8_show 47 = .ok (.iconst 2, 1) := by decide +kernel
theorem dX8_show_48 : decode cX8_show 48 = .ok (.iastore, 1) := by decide +kernel
theorem dX8_show_49 : decode cX8_show 49 = .ok (.aload_n 0, 1) := by decide +kernel
theorem dX8_show_50 : decode cX8_show 50 = .ok (.getfield 28, 3) := by decide +kernel
theorem dX8_show_53 : decode cX8_show 53 = .ok (.iload_n 1, 1) := by decide +kernel
theorem dX8_show_54 : decode cX8_show 54 = .ok (.iload_n 2, 1) := by decide +kernel
theorem dX8_show_55 : decode cX8_show 55 = .ok (.iastore, 1) := by decide +kernel
theorem dX8_show_56 : decode cX8_show 56 = .ok (.iconst 1, 1) := by decide +kernel
theorem dX8_show_57 : decode cX8_show 57 = .ok (.ireturn, 1) := by decide +kernel
theorem dX8_isUnder_0 : decode cX8_isUnder 0 = .ok (.iload_n 1, 1) := by decide +kernel
theorem dX8_isUnder_1 : decode cX8_isUnder 1 = .ok (.ifCond .eq 28, 3) := by decide +kernel
theorem dX8_isUnder_4 : decode cX8_isUnder 4 = .ok (.iload_n 0, 1) := by decide +kernel
theorem dX8_isUnder_5 : decode cX8_isUnder 5 = .ok (.iload_n 1, 1) := by decide +kernel
theorem dX8_isUnder_6 : decode cX8_isUnder 6 = .ok (.if_icmp .eq 23, 3) := by decide +kernel
theorem dX8_isUnder_9 : decode cX8_isUnder 9 = .ok (.iload_n 1, 1) := by decide +kernel
theorem dX8_isUnder_10 : decode cX8_isUnder 10 = .ok (.iconst 1, 1) := by decide +kernel
theorem dX8_isUnder_11 : decode cX8_isUnder 11 = .ok (.if_icmp .ne 8, 3) := by decide +kernel
theorem dX8_isUnder_14 : decode cX8_isUnder 14 = .ok (.iload_n 0, 1) := by decide +kernel
theorem dX8_isUnder_15 : decode cX8_isUnder 15 = .ok (.iconst 3, 1) := by decide +kernel
theorem dX8_isUnder_16 : decode cX8_isUnder 16 = .ok (.if_icmp .eq 13, 3) := by decide +kernel
theorem dX8_isUnder_19 : decode cX8_isUnder 19 = .ok (.iload_n 1, 1) := by decide +kernel
theorem dX8_isUnder_20 : decode cX8_isUnder 20 = .ok (.iconst 2, 1) := by decide +kernel
theorem dX8_isUnder_21 : decode cX8_isUnder 21 = .ok (.if_icmp .ne 12, 3) := by decide +kernel
theorem dX8_isUnder_24 : decode cX8_isUnder 24 = .ok (.iload_n 0, 1) := by decide +kernel
theorem dX8_isUnder_25 : decode cX8_isUnder 25 = .ok (.iconst 4, 1) := by decide +kernel
theorem dX8_isUnder_26 : decode cX8_isUnder 26 = .ok (.if_icmp .ne 7, 3) := by decide +kernel
theorem dX8_isUnder_29 : decode cX8_isUnder 29 = .ok (.iconst 1, 1) := by decide +kernel
theorem dX8_isUnder_30 : decode cX8_isUnder 30 = .ok (.goto 4, 3) := by decide +kernel
theorem dX8_isUnder_33 : decode cX8_isUnder 33 = .ok (.iconst 0, 1) := by decide +kernel
theorem dX8_isUnder_34 : decode cX8_isUnder 34 = .ok (.ireturn, 1) := by decide +kernel
theorem dX8_says_0 : decode cX8_says 0 = .ok (.iload_n 1, 1) := by decide +kernel
theorem dX8_says_1 : decode cX8_says 1 = .ok (.i2l, 1) := by decide +kernel
theorem dX8_says_2 : decode cX8_says 2 = .ok (.lconst 0, 1) := by decide +kernel
theorem dX8_says_3 : decode cX8_says 3 = .ok (.ldc2_w 95, 3) := by decide +kernel
theorem dX8_says_6 : decode cX8_says 6 = .ok (.invokestatic 91, 3) := by decide +kernel
theorem dX8_says_9 : decode cX8_says 9 = .ok (.ifCond .eq 15, 3) := by decide +kernel
theorem dX8_says_12 : decode cX8_says 12 = .ok (.iload_n 2, 1) := by decide +kernel
theorem dX8_says_13 : decode cX8_says 13 = .ok (.i2l, 1) := by decide +kernel
theorem dX8_says_14 : decode cX8_says 14 = .ok (.lconst 0, 1) := by decide +kernel
theorem dX8_says_15 : decode cX8_says 15 = .ok (.ldc2_w 116, 3) := by decide +kernel
theorem dX8_says_18 : decode cX8_says 18 = .ok (.invokestatic 91, 3) := by decide +kernel
theorem dX8_says_21 : decode cX8_says 21 = .ok (.ifCond .ne 10, 3) := by decide +kernel
theorem dX8_says_24 : decode cX8_says 24 = .ok (.aload_n 0, 1) := by decide +kernel
theorem dX8_says_25 : decode cX8_says 25 = .ok (.bipush (-2), 2) := by decide +kernel
theorem dX8_says_27 : decode cX8_says 27 = .ok (.invokevirtual 101, 3) := by decide +kernel
theorem dX8_says_30 : decode cX8_says 30 = .ok (.ireturn, 1) := by decide +kernel
theorem dX8_says_31 : decode cX8_says 31 = .ok (.aload_n 0, 1) := by decide +kernel
theorem dX8_says_32 : decode cX8_says 32 = .ok (.getfield 7, 3) := by decide +kernel
theorem dX8_says_35 : decode cX8_says 35 = .ok (.iload_n 1, 1) := by decide +kernel
theorem dX8_says_36 : decode cX8_says 36 = .ok (.iaload, 1) := by decide +kernel
theorem dX8_says_37 : decode cX8_says 37 = .ok (.iconst 1, 1) := by decide +kernel
theorem dX8_says_38 : decode cX8_says 38 = .ok (.if_icmp .eq 31, 3) := by decide +kernel
theorem dX8_says_41 : decode cX8_says 41 = .ok (.aload_n 0, 1) := by decide +kernel
theorem dX8_says_42 : decode cX8_says 42 = .ok (.getfield 7, 3) := by decide +kernel
theorem dX8_says_45 : decode cX8_says 45 = .ok (.iload_n 1, 1) := by decide +kernel
theorem dX8_says_46 : decode cX8_says 46 = .ok (.iaload, 1) := by decide +kernel
theorem dX8_says_47 : decode cX8_says 47 = .ok (.iconst 2, 1) := by decide +kernel
theorem dX8_says_48 : decode cX8_says 48 = .ok (.if_icmp .ne 28, 3) := by decide +kernel
theorem dX8_says_51 : decode cX8_says 51 = .ok (.aload_n 0, 1) := by decide +kernel
theorem dX8_says_52 : decode cX8_says 52 = .ok (.getfield 50, 3) := by decide +kernel
theorem dX8_says_55 : decode cX8_says 55 = .ok (.aload_n 0, 1) := by decide +kernel
theorem dX8_says_56 : decode cX8_says 56 = .ok (.getfield 28, 3) := by decide +kernel
theorem dX8_says_59 : decode cX8_says 59 = .ok (.iload_n 1, 1) := by decide +kernel
theorem dX8_says_60 : decode cX8_says 60 = .ok (.iaload, 1) := by decide +kernel
theorem dX8_says_61 : decode cX8_says 61 = .ok (.iaload, 1) := by decide +kernel
theorem dX8_says_62 : decode cX8_says 62 = .ok (.iload_n 2, 1) := by decide +kernel
theorem dX8_says_63 : decode cX8_says 63 = .ok (.invokestatic 118, 3) := by decide +kernel
theorem dX8_says_66 : decode cX8_says 66 = .ok (.ifCond .ne 10, 3) := by decide +kernel
theorem dX8_says_69 : decode cX8_says 69 = .ok (.aload_n 0, 1) := by decide +kernel
theorem dX8_says_70 : decode cX8_says 70 = .ok (.bipush (-3), 2) := by decide +kernel
theorem dX8_says_72 : decode cX8_says 72 = .ok (.invokevirtual 101, 3) := by decide +kernel
theorem dX8_says_75 : decode cX8_says 75 = .ok (.ireturn, 1) := by decide +kernel
theorem dX8_says_76 : decode cX8_says 76 = .ok (.aload_n 0, 1) := by decide +kernel
theorem dX8_says_77 : decode cX8_says 77 = .ok (.getfield 7, 3) := by decide +kernel
theorem dX8_says_80 : decode cX8_says 80 = .ok (.iload_n 1, 1) := by decide +kernel
theorem dX8_says_81 : decode cX8_says 81 = .ok (.iaload, 1) := by decide +kernel
theorem dX8_says_82 : decode cX8_says 82 = .ok (.ifCond .ne 10, 3) := by decide +kernel
theorem dX8_says_85 : decode cX8_says 85 = .ok (.aload_n 0, 1) := by decide +kernel
theorem dX8_says_86 : decode cX8_says 86 = .ok (.bipush (-4), 2) := by decide +kernel
theorem dX8_says_88 : decode cX8_says 88 = .ok (.invokevirtual 101, 3) := by decide +kernel
theorem dX8_says_91 : decode cX8_says 91 = .ok (.ireturn, 1) := by decide +kernel
theorem dX8_says_92 : decode cX8_says 92 = .ok (.iload_n 2, 1) := by decide +kernel
theorem dX8_says_93 : decode cX8_says 93 = .ok (.ifCond .ne 17, 3) := by decide +kernel
theorem dX8_says_96 : decode cX8_says 96 = .ok (.aload_n 0, 1) := by decide +kernel
theorem dX8_says_97 : decode cX8_says 97 = .ok (.getfield 56, 3) := by decide +kernel
theorem dX8_says_100 : decode cX8_says 100 = .ok (.aload_n 0, 1) := by decide +kernel
theorem dX8_says_101 : decode cX8_says 101 = .ok (.getfield 28, 3) := by decide +kernel
theorem dX8_says_104 : decode cX8_says 104 = .ok (.iload_n 1, 1) := by decide +kernel
theorem dX8_says_105 : decode cX8_says 105 = .ok (.iaload, 1) := by decide +kernel
theorem dX8_says_106 : decode cX8_says 106 = .ok (.iaload, 1) := by decide +kernel
theorem dX8_says_107 : decode cX8_says 107 = .ok (.goto 13, 3) := by decide +kernel
theorem dX8_says_110 : decode cX8_says 110 = .ok (.aload_n 0, 1) := by decide +kernel
theorem dX8_says_111 : decode cX8_says 111 = .ok (.aload_n 0, 1) := by decide +kernel
theorem dX8_says_112 : decode cX8_says 112 = .ok (.getfield 28, 3) := by decide +kernel
theorem dX8_says_115 : decode cX8_says 115 = .ok (.iload_n 1, 1) := by decide +kernel
theorem dX8_says_116 : decode cX8_says 116 = .ok (.iaload, 1) := by decide +kernel
theorem dX8_says_117 : decode cX8_says 117 = .ok (.invokevirtual 122, 3) := by decide +kernel
theorem dX8_says_120 : decode cX8_says 120 = .ok (.ireturn, 1) := by decide +kernel
theorem dX8_addPerson_0 : decode cX8_addPerson 0 = .ok (.aload_n 0, 1) := by decide +kernel
theorem dX8_addPerson_1 : decode cX8_addPerson 1 = .ok (.getfield 50, 3) := by decide +kernel
theorem dX8_addPerson_4 : decode cX8_addPerson 4 = .ok (.aload_n 0, 1) := by decide +kernel
theorem dX8_addPerson_5 : decode cX8_addPerson 5 = .ok (.getfield 88, 3) := by decide +kernel
theorem dX8_addPerson_8 : decode cX8_addPerson 8 = .ok (.iload_n 1, 1) := by decide +kernel
theorem dX8_addPerson_9 : decode cX8_addPerson 9 = .ok (.iastore, 1) := by decide +kernel
theorem dX8_addPerson_10 : decode cX8_addPerson 10 = .ok (.aload_n 0, 1) := by decide +kernel
theorem dX8_addPerson_11 : decode cX8_addPerson 11 = .ok (.getfield 53, 3) := by decide +kernel
theorem dX8_addPerson_14 : decode cX8_addPerson 14 = .ok (.aload_n 0, 1) := by decide +kernel
theorem dX8_addPerson_15 : decode cX8_addPerson 15 = .ok (.getfield 88, 3) := by decide +kernel
theorem dX8_addPerson_18 : decode cX8_addPerson 18 = .ok (.iload_n 2, 1) := by decide +kernel
theorem dX8_addPerson_19 : decode cX8_addPerson 19 = .ok (.iastore, 1) := by decide +kernel
theorem dX8_addPerson_20 : decode cX8_addPerson 20 = .ok (.aload_n 0, 1) := by decide +kernel
theorem dX8_addPerson_21 : decode cX8_addPerson 21 = .ok (.getfield 56, 3) := by decide +kernel
theorem dX8_addPerson_24 : decode cX8_addPerson 24 = .ok (.aload_n 0, 1) := by decide +kernel
theorem dX8_addPerson_25 : decode cX8_addPerson 25 = .ok (.getfield 88, 3) := by decide +kernel
theorem dX8_addPerson_28 : decode cX8_addPerson 28 = .ok (.iload_n 3, 1) := by decide +kernel
theorem dX8_addPerson_29 : decode cX8_addPerson 29 = .ok (.iastore, 1) := by decide +kernel
theorem dX8_addPerson_30 : decode cX8_addPerson 30 = .ok (.aload_n 0, 1) := by decide +kernel
theorem dX8_addPerson_31 : decode cX8_addPerson 31 = .ok (.getfield 59, 3) := by decide +kernel
theorem dX8_addPerson_34 : decode cX8_addPerson 34 = .ok (.aload_n 0, 1) := by decide +kernel
theorem dX8_addPerson_35 : decode cX8_addPerson 35 = .ok (.getfield 88, 3) := by decide +kernel
theorem dX8_addPerson_38 : decode cX8_addPerson 38 = .ok (.iconst 0, 1) := by decide +kernel
theorem dX8_addPerson_39 : decode cX8_addPerson 39 = .ok (.iastore, 1) := by decide +kernel
theorem dX8_addPerson_40 : decode cX8_addPerson 40 = .ok (.aload_n 0, 1) := by decide +kernel
theorem dX8_addPerson_41 : decode cX8_addPerson 41 = .ok (.getfield 62, 3) := by decide +kernel
theorem dX8_addPerson_44 : decode cX8_addPerson 44 = .ok (.aload_n 0, 1) := by decide +kernel
theorem dX8_addPerson_45 : decode cX8_addPerson 45 = .ok (.getfield 88, 3) := by decide +kernel
theorem dX8_addPerson_48 : decode cX8_addPerson 48 = .ok (.iconst 0, 1) := by decide +kernel
theorem dX8_addPerson_49 : decode cX8_addPerson 49 = .ok (.iastore, 1) := by decide +kernel
theorem dX8_addPerson_50 : decode cX8_addPerson 50 = .ok (.aload_n 0, 1) := by decide +kernel
theorem dX8_addPerson_51 : decode cX8_addPerson 51 = .ok (.dup, 1) := by decide +kernel
theorem dX8_addPerson_52 : decode cX8_addPerson 52 = .ok (.getfield 88, 3) := by decide +kernel
theorem dX8_addPerson_55 : decode cX8_addPerson 55 = .ok (.iconst 1, 1) := by decide +kernel
theorem dX8_addPerson_56 : decode cX8_addPerson 56 = .ok (.iadd, 1) := by decide +kernel
theorem dX8_addPerson_57 : decode cX8_addPerson 57 = .ok (.putfield 88, 3) := by decide +kernel
theorem dX8_addPerson_60 : decode cX8_addPerson 60 = .ok (.return_, 1) := by decide +kernel
theorem dX8_person_0 : decode cX8_person 0 = .ok (.iload_n 1, 1) := by decide +kernel
theorem dX8_person_1 : decode cX8_person 1 = .ok (.i2l, 1) := by decide +kernel
theorem dX8_person_2 : decode cX8_person 2 = .ok (.lconst 0, 1) := by decide +kernel
theorem dX8_person_3 : decode cX8_person 3 = .ok (.ldc2_w 116, 3) := by decide +kernel
theorem dX8_person_6 : decode cX8_person 6 = .ok (.invokestatic 91, 3) := by decide +kernel
theorem dX8_person_9 : decode cX8_person 9 = .ok (.ifCond .eq 27, 3) := by decide +kernel
theorem dX8_person_12 : decode cX8_person 12 = .ok (.iload_n 2, 1) := by decide +kernel
theorem dX8_person_13 : decode cX8_person 13 = .ok (.i2l, 1) := by decide +kernel
theorem dX8_person_14 : decode cX8_person 14 = .ok (.lconst 0, 1) := by decide +kernel
theorem dX8_person_15 : decode cX8_person 15 = .ok (.ldc2_w 125, 3) := by decide +kernel
theorem dX8_person_18 : decode cX8_person 18 = .ok (.invokestatic 91, 3) := by decide +kernel
theorem dX8_person_21 : decode cX8_person 21 = .ok (.ifCond .eq 15, 3) := by decide +kernel
theorem dX8_person_24 : decode cX8_person 24 = .ok (.iload_n 3, 1) := by decide +kernel
theorem dX8_person_25 : decode cX8_person 25 = .ok (.i2l, 1) := by decide +kernel
theorem dX8_person_26 : decode cX8_person 26 = .ok (.lconst 0, 1) := by decide +kernel
theorem dX8_person_27 : decode cX8_person 27 = .ok (.ldc2_w 127, 3) := by decide +kernel
theorem dX8_person_30 : decode cX8_person 30 = .ok (.invokestatic 91, 3) := by decide +kernel
theorem dX8_person_33 : decode cX8_person 33 = .ok (.ifCond .ne 10, 3) := by decide +kernel
theorem dX8_person_36 : decode cX8_person 36 = .ok (.aload_n 0, 1) := by decide +kernel
theorem dX8_person_37 : decode cX8_person 37 = .ok (.bipush (-2), 2) := by decide +kernel
theorem dX8_person_39 : decode cX8_person 39 = .ok (.invokevirtual 101, 3) := by decide +kernel
theorem dX8_person_42 : decode cX8_person 42 = .ok (.ireturn, 1) := by decide +kernel
theorem dX8_person_43 : decode cX8_person 43 = .ok (.aload_n 0, 1) := by decide +kernel
theorem dX8_person_44 : decode cX8_person 44 = .ok (.getfield 88, 3) := by decide +kernel
theorem dX8_person_47 : decode cX8_person 47 = .ok (.bipush 8, 2) := by decide +kernel
theorem dX8_person_49 : decode cX8_person 49 = .ok (.if_icmp .ne 10, 3) := by decide +kernel
theorem dX8_person_52 : decode cX8_person 52 = .ok (.aload_n 0, 1) := by decide +kernel
theorem dX8_person_53 : decode cX8_person 53 = .ok (.bipush (-6), 2) := by decide +kernel
theorem dX8_person_55 : decode cX8_person 55 = .ok (.invokevirtual 101, 3) := by decide +kernel
theorem dX8_person_58 : decode cX8_person 58 = .ok (.ireturn, 1) := by decide +kernel
theorem dX8_person_59 : decode cX8_person 59 = .ok (.aload_n 0, 1) := by decide +kernel
theorem dX8_person_60 : decode cX8_person 60 = .ok (.iload_n 1, 1) := by decide +kernel
theorem dX8_person_61 : decode cX8_person 61 = .ok (.iload_n 2, 1) := by decide +kernel
theorem dX8_person_62 : decode cX8_person 62 = .ok (.iload_n 3, 1) := by decide +kernel
theorem dX8_person_63 : decode cX8_person 63 = .ok (.invokevirtual 129, 3) := by decide +kernel
theorem dX8_person_66 : decode cX8_person 66 = .ok (.aload_n 0, 1) := by decide +kernel
theorem dX8_person_67 : decode cX8_person 67 = .ok (.getfield 88, 3) := by decide +kernel
theorem dX8_person_70 : decode cX8_person 70 = .ok (.iconst 1, 1) := by decide +kernel
theorem dX8_person_71 : decode cX8_person 71 = .ok (.isub, 1) := by decide +kernel
theorem dX8_person_72 : decode cX8_person 72 = .ok (.ireturn, 1) := by decide +kernel
theorem dX8_give_0 : decode cX8_give 0 = .ok (.aload_n 0, 1) := by decide +kernel
theorem dX8_give_1 : decode cX8_give 1 = .ok (.iload_n 1, 1) := by decide +kernel
theorem dX8_give_2 : decode cX8_give 2 = .ok (.i2l, 1) := by decide +kernel
theorem dX8_give_3 : decode cX8_give 3 = .ok (.invokevirtual 112, 3) := by decide +kernel
theorem dX8_give_6 : decode cX8_give 6 = .ok (.ifCond .eq 48, 3) := by decide +kernel
theorem dX8_give_9 : decode cX8_give 9 = .ok (.iload_n 2, 1) := by decide +kernel
theorem dX8_give_10 : decode cX8_give 10 = .ok (.i2l, 1) := by decide +kernel
theorem dX8_give_11 : decode cX8_give 11 = .ok (.lconst 0, 1) := by decide +kernel
theorem dX8_give_12 : decode cX8_give 12 = .ok (.ldc2_w 133, 3) := by decide +kernel
theorem dX8_give_15 : decode cX8_give 15 = .ok (.invokestatic 91, 3) := by decide +kernel
theorem dX8_give_18 : decode cX8_give 18 = .ok (.ifCond .eq 36, 3) := by decide +kernel
theorem dX8_give_21 : decode cX8_give 21 = .ok (.iload_n 3, 1) := by decide +kernel
theorem dX8_give_22 : decode cX8_give 22 = .ok (.i2l, 1) := by decide +kernel
theorem dX8_give_23 : decode cX8_give 23 = .ok (.lconst 0, 1) := by decide +kernel
theorem dX8_give_24 : decode cX8_give 24 = .ok (.iload_n 2, 1) := by decide +kernel
theorem dX8_give_25 : decode cX8_give 25 = .ok (.ifCond .ne 9, 3) := by decide +kernel
theorem dX8_give_28 : decode cX8_give 28 = .ok (.ldc2_w 127, 3) := by decide +kernel
theorem dX8_give_31 : decode cX8_give 31 = .ok (.goto 17, 3) := by decide +kernel
theorem dX8_give_34 : decode cX8_give 34 = .ok (.iload_n 2, 1) := by decide +kernel
theorem dX8_give_35 : decode cX8_give 35 = .ok (.iconst 1, 1) := by decide +kernel
theorem dX8_give_36 : decode cX8_give 36 = .ok (.if_icmp .ne 9, 3) := by decide +kernel
theorem dX8_give_39 : decode cX8_give 39 = .ok (.ldc2_w 125, 3) := by decide +kernel
theorem dX8_give_42 : decode cX8_give 42 = .ok (.goto 6, 3) := by decide +kernel
theorem dX8_give_45 : decode cX8_give 45 = .ok (.ldc2_w 99, 3) := by decide +kernel
theorem dX8_give_48 : decode cX8_give 48 = .ok (.invokestatic 91, 3) := by decide +kernel
theorem dX8_give_51 : decode cX8_give 51 = .ok (.ifCond .ne 10, 3) := by decide +kernel
theorem dX8_give_54 : decode cX8_give 54 = .ok (.aload_n 0, 1) := by decide +kernel
theorem dX8_give_55 : decode cX8_give 55 = .ok (.bipush (-2), 2) := by decide +kernel
theorem dX8_give_57 : decode cX8_give 57 = .ok (.invokevirtual 101, 3) := by decide +kernel
theorem dX8_give_60 : decode cX8_give 60 = .ok (.ireturn, 1) := by decide +kernel
theorem dX8_give_61 : decode cX8_give 61 = .ok (.iload_n 2, 1) := by decide +kernel
theorem dX8_give_62 : decode cX8_give 62 = .ok (.ifCond .ne 12, 3) := by decide +kernel
theorem dX8_give_65 : decode cX8_give 65 = .ok (.aload_n 0, 1) := by decide +kernel
theorem dX8_give_66 : decode cX8_give 66 = .ok (.getfield 56, 3) := by decide +kernel
theorem dX8_give_69 : decode cX8_give 69 = .ok (.iload_n 1, 1) := by decide +kernel
theorem dX8_give_70 : decode cX8_give 70 = .ok (.iaload, 1) := by decide +kernel
theorem dX8_give_71 : decode cX8_give 71 = .ok (.goto 23, 3) := by decide +kernel
theorem dX8_give_74 : decode cX8_give 74 = .ok (.iload_n 2, 1) := by decide +kernel
theorem dX8_give_75 : decode cX8_give 75 = .ok (.iconst 1, 1) := by decide +kernel
theorem dX8_give_76 : decode cX8_give 76 = .ok (.if_icmp .ne 12, 3) := by decide +kernel
theorem dX8_give_79 : decode cX8_give 79 = .ok (.aload_n 0, 1) := by decide +kernel
theorem dX8_give_80 : decode cX8_give 80 = .ok (.getfield 59, 3) := by decide +kernel
theorem dX8_give_83 : decode cX8_give 83 = .ok (.iload_n 1, 1) := by decide +kernel
theorem dX8_give_84 : decode cX8_give 84 = .ok (.iaload, 1) := by decide +kernel
theorem dX8_give_85 : decode cX8_give 85 = .ok (.goto 9, 3) := by decide +kernel
theorem dX8_give_88 : decode cX8_give 88 = .ok (.aload_n 0, 1) := by decide +kernel
theorem dX8_give_89 : decode cX8_give 89 = .ok (.getfield 62, 3) := by decide +kernel
theorem dX8_give_92 : decode cX8_give 92 = .ok (.iload_n 1, 1) := by decide +kernel
theorem dX8_give_93 : decode cX8_give 93 = .ok (.iaload, 1) := by decide +kernel
theorem dX8_give_94 : decode cX8_give 94 = .ok (.istore 4, 2) := by decide +kernel
theorem dX8_give_96 : decode cX8_give 96 = .ok (.aload_n 0, 1) := by decide +kernel
theorem dX8_give_97 : decode cX8_give 97 = .ok (.getfield 56, 3) := by decide +kernel
theorem dX8_give_100 : decode cX8_give 100 = .ok (.iload_n 1, 1) := by decide +kernel
theorem dX8_give_101 : decode cX8_give 101 = .ok (.iload_n 2, 1) := by decide +kernel
theorem dX8_give_102 : decode cX8_give 102 = .ok (.ifCond .ne 7, 3) := by decide +kernel
theorem dX8_give_105 : decode cX8_give 105 = .ok (.iload_n 3, 1) := by decide +kernel
theorem dX8_give_106 : decode cX8_give 106 = .ok (.goto 9, 3) := by decide +kernel
theorem dX8_give_109 : decode cX8_give 109 = .ok (.aload_n 0, 1) := by decide +kernel
theorem dX8_give_110 : decode cX8_give 110 = .ok (.getfield 56, 3) := by decide +kernel
theorem dX8_give_113 : decode cX8_give 113 = .ok (.iload_n 1, 1) := by decide +kernel
theorem dX8_give_114 : decode cX8_give 114 = .ok (.iaload, 1) := by decide +kernel
theorem dX8_give_115 : decode cX8_give 115 = .ok (.iastore, 1) := by decide +kernel
theorem dX8_give_116 : decode cX8_give 116 = .ok (.aload_n 0, 1) := by decide +kernel
theorem dX8_give_117 : decode cX8_give 117 = .ok (.getfield 59, 3) := by decide +kernel
theorem dX8_give_120 : decode cX8_give 120 = .ok (.iload_n 1, 1) := by decide +kernel
theorem dX8_give_121 : decode cX8_give 121 = .ok (.iload_n 2, 1) := by decide +kernel
theorem dX8_give_122 : decode cX8_give 122 = .ok (.iconst 1, 1) := by decide +kernel
theorem dX8_give_123 : decode cX8_give 123 = .ok (.if_icmp .ne 7, 3) := by decide +kernel
theorem dX8_give_126 : decode cX8_give 126 = .ok (.iload_n 3, 1) := by decide +kernel
theorem dX8_give_127 : decode cX8_give 127 = .ok (.goto 9, 3) := by decide +kernel
theorem dX8_give_130 : decode cX8_give 130 = .ok (.aload_n 0, 1) := by decide +kernel
theorem dX8_give_131 : decode cX8_give 131 = .ok (.getfield 59, 3) := by decide +kernel
theorem dX8_give_134 : decode cX8_give 134 = .ok (.iload_n 1, 1) := by decide +kernel
theorem dX8_give_135 : decode cX8_give 135 = .ok (.iaload, 1) := by decide +kernel
theorem dX8_give_136 : decode cX8_give 136 = .ok (.iastore, 1) := by decide +kernel
theorem dX8_give_137 : decode cX8_give 137 = .ok (.aload_n 0, 1) := by decide +kernel
theorem dX8_give_138 : decode cX8_give 138 = .ok (.getfield 62, 3) := by decide +kernel
theorem dX8_give_141 : decode cX8_give 141 = .ok (.iload_n 1, 1) := by decide +kernel
theorem dX8_give_142 : decode cX8_give 142 = .ok (.iload_n 2, 1) := by decide +kernel
theorem dX8_give_143 : decode cX8_give 143 = .ok (.iconst 2, 1) := by decide +kernel
theorem dX8_give_144 : decode cX8_give 144 = .ok (.if_icmp .ne 7, 3) := by decide +kernel
theorem dX8_give_147 : decode cX8_give 147 = .ok (.iload_n 3, 1) := by decide +kernel
theorem dX8_give_148 : decode cX8_give 148 = .ok (.goto 9, 3) := by decide +kernel
theorem dX8_give_151 : decode cX8_give 151 = .ok (.aload_n 0, 1) := by decide +kernel
theorem dX8_give_152 : decode cX8_give 152 = .ok (.getfield 62, 3) := by decide +kernel
theorem dX8_give_155 : decode cX8_give 155 = .ok (.iload_n 1, 1) := by decide +kernel
theorem dX8_give_156 : decode cX8_give 156 = .ok (.iaload, 1) := by decide +kernel
theorem dX8_give_157 : decode cX8_give 157 = .ok (.iastore, 1) := by decide +kernel
theorem dX8_give_158 : decode cX8_give 158 = .ok (.iload 4, 2) := by decide +kernel
theorem dX8_give_160 : decode cX8_give 160 = .ok (.ireturn, 1) := by decide +kernel
theorem dX8_tell_0 : decode cX8_tell 0 = .ok (.iload_n 1, 1) := by decide +kernel
theorem dX8_tell_1 : decode cX8_tell 1 = .ok (.i2l, 1) := by decide +kernel
theorem dX8_tell_2 : decode cX8_tell 2 = .ok (.lconst 0, 1) := by decide +kernel
theorem dX8_tell_3 : decode cX8_tell 3 = .ok (.ldc2_w 135, 3) := by decide +kernel
theorem dX8_tell_6 : decode cX8_tell 6 = .ok (.invokestatic 91, 3) := by decide +kernel
theorem dX8_tell_9 : decode cX8_tell 9 = .ok (.ifCond .eq 47, 3) := by decide +kernel
theorem dX8_tell_12 : decode cX8_tell 12 = .ok (.iload_n 2, 1) := by decide +kernel
theorem dX8_tell_13 : decode cX8_tell 13 = .ok (.i2l, 1) := by decide +kernel
theorem dX8_tell_14 : decode cX8_tell 14 = .ok (.lconst 0, 1) := by decide +kernel
theorem dX8_tell_15 : decode cX8_tell 15 = .ok (.iload_n 1, 1) := by decide +kernel
theorem dX8_tell_16 : decode cX8_tell 16 = .ok (.ifCond .ne 9, 3) := by decide +kernel
theorem dX8_tell_19 : decode cX8_tell 19 = .ok (.ldc2_w 99, 3) := by decide +kernel
theorem dX8_tell_22 : decode cX8_tell 22 = .ok (.goto 28, 3) := by decide +kernel
theorem dX8_tell_25 : decode cX8_tell 25 = .ok (.iload_n 1, 1) := by decide +kernel
theorem dX8_tell_26 : decode cX8_tell 26 = .ok (.iconst 1, 1) := by decide +kernel
theorem dX8_tell_27 : decode cX8_tell 27 = .ok (.if_icmp .ne 9, 3) := by decide +kernel
theorem dX8_tell_30 : decode cX8_tell 30 = .ok (.ldc2_w 116, 3) := by decide +kernel
theorem dX8_tell_33 : decode cX8_tell 33 = .ok (.goto 17, 3) := by decide +kernel
theorem dX8_tell_36 : decode cX8_tell 36 = .ok (.iload_n 1, 1) := by decide +kernel
theorem dX8_tell_37 : decode cX8_tell 37 = .ok (.iconst 2, 1) := by decide +kernel
theorem dX8_tell_38 : decode cX8_tell 38 = .ok (.if_icmp .ne 9, 3) := by decide +kernel
theorem dX8_tell_41 : decode cX8_tell 41 = .ok (.ldc2_w 137, 3) := by decide +kernel
theorem dX8_tell_44 : decode cX8_tell 44 = .ok (.goto 6, 3) := by decide +kernel
theorem dX8_tell_47 : decode cX8_tell 47 = .ok (.ldc2_w 125, 3) := by decide +kernel
theorem dX8_tell_50 : decode cX8_tell 50 = .ok (.invokestatic 91, 3) := by decide +kernel
theorem dX8_tell_53 : decode cX8_tell 53 = .ok (.ifCond .ne 10, 3) := by decide +kernel
theorem dX8_tell_56 : decode cX8_tell 56 = .ok (.aload_n 0, 1) := by decide +kernel
theorem dX8_tell_57 : decode cX8_tell 57 = .ok (.bipush (-2), 2) := by decide +kernel
theorem dX8_tell_59 : decode cX8_tell 59 = .ok (.invokevirtual 101, 3) := by decide +kernel
theorem dX8_tell_62 : decode cX8_tell 62 = .ok (.ireturn, 1) := by decide +kernel
theorem dX8_tell_63 : decode cX8_tell 63 = .ok (.iload_n 1, 1) := by decide +kernel
theorem dX8_tell_64 : decode cX8_tell 64 = .ok (.ifCond .ne 10, 3) := by decide +kernel
theorem dX8_tell_67 : decode cX8_tell 67 = .ok (.aload_n 0, 1) := by decide +kernel
theorem dX8_tell_68 : decode cX8_tell 68 = .ok (.getfield 37, 3) := by decide +kernel
theorem dX8_tell_71 : decode cX8_tell 71 = .ok (.goto 31, 3) := by decide +kernel
theorem dX8_tell_74 : decode cX8_tell 74 = .ok (.iload_n 1, 1) := by decide +kernel
theorem dX8_tell_75 : decode cX8_tell 75 = .ok (.iconst 1, 1) := by decide +kernel
theorem dX8_tell_76 : decode cX8_tell 76 = .ok (.if_icmp .ne 10, 3) := by decide +kernel
theorem dX8_tell_79 : decode cX8_tell 79 = .ok (.aload_n 0, 1) := by decide +kernel
theorem dX8_tell_80 : decode cX8_tell 80 = .ok (.getfield 41, 3) := by decide +kernel
theorem dX8_tell_83 : decode cX8_tell 83 = .ok (.goto 19, 3) := by decide +kernel
theorem dX8_tell_86 : decode cX8_tell 86 = .ok (.iload_n 1, 1) := by decide +kernel
theorem dX8_tell_87 : decode cX8_tell 87 = .ok (.iconst 2, 1) := by decide +kernel
theorem dX8_tell_88 : decode cX8_tell 88 = .ok (.if_icmp .ne 10, 3) := by decide +kernel
theorem dX8_tell_91 : decode cX8_tell 91 = .ok (.aload_n 0, 1) := by decide +kernel
theorem dX8_tell_92 : decode cX8_tell 92 = .ok (.getfield 139, 3) := by decide +kernel
theorem dX8_tell_95 : decode cX8_tell 95 = .ok (.goto 7, 3) := by decide +kernel
theorem dX8_tell_98 : decode cX8_tell 98 = .ok (.aload_n 0, 1) := by decide +kernel
theorem dX8_tell_99 : decode cX8_tell 99 = .ok (.getfield 47, 3) := by decide +kernel
theorem dX8_tell_102 : decode cX8_tell 102 = .ok (.istore_n 3, 1) := by decide +kernel
theorem dX8_tell_103 : decode cX8_tell 103 = .ok (.aload_n 0, 1) := by decide +kernel
theorem dX8_tell_104 : decode cX8_tell 104 = .ok (.iload_n 1, 1) := by decide +kernel
theorem dX8_tell_105 : decode cX8_tell 105 = .ok (.ifCond .ne 7, 3) := by decide +kernel
theorem dX8_tell_108 : decode cX8_tell 108 = .ok (.iload_n 2, 1) := by decide +kernel
theorem dX8_tell_109 : decode cX8_tell 109 = .ok (.goto 7, 3) := by decide +kernel
theorem dX8_tell_112 : decode cX8_tell 112 = .ok (.aload_n 0, 1) := by decide +kernel
theorem dX8_tell_113 : decode cX8_tell 113 = .ok (.getfield 37, 3) := by decide +kernel
theorem dX8_tell_116 : decode cX8_tell 116 = .ok (.putfield 37, 3) := by decide +kernel
theorem dX8_tell_119 : decode cX8_tell 119 = .ok (.aload_n 0, 1) := by decide +kernel
theorem dX8_tell_120 : decode cX8_tell 120 = .ok (.iload_n 1, 1) := by decide +kernel
theorem dX8_tell_121 : decode cX8_tell 121 = .ok (.iconst 1, 1) := by decide +kernel
theorem dX8_tell_122 : decode cX8_tell 122 = .ok (.if_icmp .ne 7, 3) := by decide +kernel
theorem dX8_tell_125 : decode cX8_tell 125 = .ok (.iload_n 2, 1) := by decide +kernel
theorem dX8_tell_126 : decode cX8_tell 126 = .ok (.goto 7, 3) := by decide +kernel
theorem dX8_tell_129 : decode cX8_tell 129 = .ok (.aload_n 0, 1) := by decide +kernel
theorem dX8_tell_130 : decode cX8_tell 130 = .ok (.getfield 41, 3) := by decide +kernel
theorem dX8_tell_133 : decode cX8_tell 133 = .ok (.putfield 41, 3) := by decide +kernel
theorem dX8_tell_136 : decode cX8_tell 136 = .ok (.aload_n 0, 1) := by decide +kernel
theorem dX8_tell_137 : decode cX8_tell 137 = .ok (.iload_n 1, 1) := by decide +kernel
theorem dX8_tell_138 : decode cX8_tell 138 = .ok (.iconst 2, 1) := by decide +kernel
theorem dX8_tell_139 : decode cX8_tell 139 = .ok (.if_icmp .ne 7, 3) := by decide +kernel
theorem dX8_tell_142 : decode cX8_tell 142 = .ok (.iload_n 2, 1) := by decide +kernel
theorem dX8_tell_143 : decode cX8_tell 143 = .ok (.goto 7, 3) := by decide +kernel
theorem dX8_tell_146 : decode cX8_tell 146 = .ok (.aload_n 0, 1) := by decide +kernel
theorem dX8_tell_147 : decode cX8_tell 147 = .ok (.getfield 139, 3) := by decide +kernel
theorem dX8_tell_150 : decode cX8_tell 150 = .ok (.putfield 139, 3) := by decide +kernel
theorem dX8_tell_153 : decode cX8_tell 153 = .ok (.aload_n 0, 1) := by decide +kernel
theorem dX8_tell_154 : decode cX8_tell 154 = .ok (.iload_n 1, 1) := by decide +kernel
theorem dX8_tell_155 : decode cX8_tell 155 = .ok (.iconst 3, 1) := by decide +kernel
theorem dX8_tell_156 : decode cX8_tell 156 = .ok (.if_icmp .ne 7, 3) := by decide +kernel
theorem dX8_tell_159 : decode cX8_tell 159 = .ok (.iload_n 2, 1) := by decide +kernel
theorem dX8_tell_160 : decode cX8_tell 160 = .ok (.goto 7, 3) := by decide +kernel
theorem dX8_tell_163 : decode cX8_tell 163 = .ok (.aload_n 0, 1) := by decide +kernel
theorem dX8_tell_164 : decode cX8_tell 164 = .ok (.getfield 47, 3) := by decide +kernel
theorem dX8_tell_167 : decode cX8_tell 167 = .ok (.putfield 47, 3) := by decide +kernel
theorem dX8_tell_170 : decode cX8_tell 170 = .ok (.iload_n 3, 1) := by decide +kernel
theorem dX8_tell_171 : decode cX8_tell 171 = .ok (.ireturn, 1) := by decide +kernel
theorem dX8_thaw_0 : decode cX8_thaw 0 = .ok (.aload_n 0, 1) := by decide +kernel
theorem dX8_thaw_1 : decode cX8_thaw 1 = .ok (.getfield 44, 3) := by decide +kernel
theorem dX8_thaw_4 : decode cX8_thaw 4 = .ok (.iconst (-1), 1) := by decide +kernel
theorem dX8_thaw_5 : decode cX8_thaw 5 = .ok (.if_icmp .ne 7, 3) := by decide +kernel
theorem dX8_thaw_8 : decode cX8_thaw 8 = .ok (.iconst 0, 1) := by decide +kernel
theorem dX8_thaw_9 : decode cX8_thaw 9 = .ok (.goto 4, 3) := by decide +kernel
theorem dX8_thaw_12 : decode cX8_thaw 12 = .ok (.iconst 1, 1) := by decide +kernel
theorem dX8_thaw_13 : decode cX8_thaw 13 = .ok (.istore_n 1, 1) := by decide +kernel
theorem dX8_thaw_14 : decode cX8_thaw 14 = .ok (.aload_n 0, 1) := by decide +kernel
theorem dX8_thaw_15 : decode cX8_thaw 15 = .ok (.iconst (-1), 1) := by decide +kernel
theorem dX8_thaw_16 : decode cX8_thaw 16 = .ok (.putfield 44, 3) := by decide +kernel
theorem dX8_thaw_19 : decode cX8_thaw 19 = .ok (.iload_n 1, 1) := by decide +kernel
theorem dX8_thaw_20 : decode cX8_thaw 20 = .ok (.ireturn, 1) := by decide +kernel
theorem dX8_feed_0 : decode cX8_feed 0 = .ok (.iload_n 1, 1) := by decide +kernel
theorem dX8_feed_1 : decode cX8_feed 1 = .ok (.i2l, 1) := by decide +kernel
theorem dX8_feed_2 : decode cX8_feed 2 = .ok (.lconst 0, 1) := by decide +kernel
theorem dX8_feed_3 : decode cX8_feed 3 = .ok (.ldc2_w 142, 3) := by decide +kernel
theorem dX8_feed_6 : decode cX8_feed 6 = .ok (.invokestatic 91, 3) := by decide +kernel
theorem dX8_feed_9 : decode cX8_feed 9 = .ok (.ifCond .ne 10, 3) := by decide +kernel
theorem dX8_feed_12 : decode cX8_feed 12 = .ok (.aload_n 0, 1) := by decide +kernel
theorem dX8_feed_13 : decode cX8_feed 13 = .ok (.bipush (-2), 2) := by decide +kernel
theorem dX8_feed_15 : decode cX8_feed 15 = .ok (.invokevirtual 101, 3) := by decide +kernel
theorem dX8_feed_18 : decode cX8_feed 18 = .ok (.ireturn, 1) := by decide +kernel
theorem dX8_feed_19 : decode cX8_feed 19 = .ok (.aload_n 0, 1) := by decide +kernel
theorem dX8_feed_20 : decode cX8_feed 20 = .ok (.getfield 144, 3) := by decide +kernel
theorem dX8_feed_23 : decode cX8_feed 23 = .ok (.sipush 250, 3) := by decide +kernel
theorem dX8_feed_26 : decode cX8_feed 26 = .ok (.if_icmp .ne 10, 3) := by decide +kernel
theorem dX8_feed_29 : decode cX8_feed 29 = .ok (.aload_n 0, 1) := by decide +kernel
theorem dX8_feed_30 : decode cX8_feed 30 = .ok (.bipush (-6), 2) := by decide +kernel
theorem dX8_feed_32 : decode cX8_feed 32 = .ok (.invokevirtual 101, 3) := by decide +kernel
theorem dX8_feed_35 : decode cX8_feed 35 = .ok (.ireturn, 1) := by decide +kernel
theorem dX8_feed_36 : decode cX8_feed 36 = .ok (.aload_n 0, 1) := by decide +kernel
theorem dX8_feed_37 : decode cX8_feed 37 = .ok (.getfield 31, 3) := by decide +kernel
theorem dX8_feed_40 : decode cX8_feed 40 = .ok (.aload_n 0, 1) := by decide +kernel
theorem dX8_feed_41 : decode cX8_feed 41 = .ok (.dup, 1) := by decide +kernel
theorem dX8_feed_42 : decode cX8_feed 42 = .ok (.getfield 144, 3) := by decide +kernel
theorem dX8_feed_45 : decode cX8_feed 45 = .ok (.dup_x1, 1) := by decide +kernel
theorem dX8_feed_46 : decode cX8_feed 46 = .ok (.iconst 1, 1) := by decide +kernel
theorem dX8_feed_47 : decode cX8_feed 47 = .ok (.iadd, 1) := by decide +kernel
theorem dX8_feed_48 : decode cX8_feed 48 = .ok (.putfield 144, 3) := by decide +kernel
theorem dX8_feed_51 : decode cX8_feed 51 = .ok (.iload_n 1, 1) := by decide +kernel
theorem dX8_feed_52 : decode cX8_feed 52 = .ok (.iastore, 1) := by decide +kernel
theorem dX8_feed_53 : decode cX8_feed 53 = .ok (.aload_n 0, 1) := by decide +kernel
theorem dX8_feed_54 : decode cX8_feed 54 = .ok (.getfield 144, 3) := by decide +kernel
theorem dX8_feed_57 : decode cX8_feed 57 = .ok (.ireturn, 1) := by decide +kernel
theorem dX8_wipe_0 : decode cX8_wipe 0 = .ok (.aload_n 0, 1) := by decide +kernel
theorem dX8_wipe_1 : decode cX8_wipe 1 = .ok (.getfield 144, 3) := by decide +kernel
theorem dX8_wipe_4 : decode cX8_wipe 4 = .ok (.istore_n 1, 1) := by decide +kernel
theorem dX8_wipe_5 : decode cX8_wipe 5 = .ok (.aload_n 0, 1) := by decide +kernel
theorem dX8_wipe_6 : decode cX8_wipe 6 = .ok (.iconst 0, 1) := by decide +kernel
theorem dX8_wipe_7 : decode cX8_wipe 7 = .ok (.putfield 144, 3) := by decide +kernel
theorem dX8_wipe_10 : decode cX8_wipe 10 = .ok (.iload_n 1, 1) := by decide +kernel
theorem dX8_wipe_11 : decode cX8_wipe 11 = .ok (.ireturn, 1) := by decide +kernel
theorem dX8_isLetter_0 : decode cX8_isLetter 0 = .ok (.iload_n 0, 1) := by decide +kernel
theorem dX8_isLetter_1 : decode cX8_isLetter 1 = .ok (.bipush 97, 2) := by decide +kernel
theorem dX8_isLetter_3 : decode cX8_isLetter 3 = .ok (.if_icmp .lt 13, 3) := by decide +kernel
theorem dX8_isLetter_6 : decode cX8_isLetter 6 = .ok (.iload_n 0, 1) := by decide +kernel
theorem dX8_isLetter_7 : decode cX8_isLetter 7 = .ok (.bipush 122, 2) := by decide +kernel
theorem dX8_isLetter_9 : decode cX8_isLetter 9 = .ok (.if_icmp .gt 7, 3) := by decide +kernel
theorem dX8_isLetter_12 : decode cX8_isLetter 12 = .ok (.iconst 1, 1) := by decide +kernel
theorem dX8_isLetter_13 : decode cX8_isLetter 13 = .ok (.goto 4, 3) := by decide +kernel
theorem dX8_isLetter_16 : decode cX8_isLetter 16 = .ok (.iconst 0, 1) := by decide +kernel
theorem dX8_isLetter_17 : decode cX8_isLetter 17 = .ok (.ireturn, 1) := by decide +kernel
theorem dX8_isDigit_0 : decode cX8_isDigit 0 = .ok (.iload_n 0, 1) := by decide +kernel
theorem dX8_isDigit_1 : decode cX8_isDigit 1 = .ok (.bipush 48, 2) := by decide +kernel
theorem dX8_isDigit_3 : decode cX8_isDigit 3 = .ok (.if_icmp .lt 13, 3) := by decide +kernel
theorem dX8_isDigit_6 : decode cX8_isDigit 6 = .ok (.iload_n 0, 1) := by decide +kernel
theorem dX8_isDigit_7 : decode cX8_isDigit 7 = .ok (.bipush 57, 2) := by decide +kernel
theorem dX8_isDigit_9 : decode cX8_isDigit 9 = .ok (.if_icmp .gt 7, 3) := by decide +kernel
theorem dX8_isDigit_12 : decode cX8_isDigit 12 = .ok (.iconst 1, 1) := by decide +kernel
theorem dX8_isDigit_13 : decode cX8_isDigit 13 = .ok (.goto 4, 3) := by decide +kernel
theorem dX8_isDigit_16 : decode cX8_isDigit 16 = .ok (.iconst 0, 1) := by decide +kernel
theorem dX8_isDigit_17 : decode cX8_isDigit 17 = .ok (.ireturn, 1) := by decide +kernel
theorem dX8_look_0 : decode cX8_look 0 = .ok (.aload_n 0, 1) := by decide +kernel
theorem dX8_look_1 : decode cX8_look 1 = .ok (.getfield 147, 3) := by decide +kernel
theorem dX8_look_4 : decode cX8_look 4 = .ok (.aload_n 0, 1) := by decide +kernel
theorem dX8_look_5 : decode cX8_look 5 = .ok (.getfield 144, 3) := by decide +kernel
theorem dX8_look_8 : decode cX8_look 8 = .ok (.if_icmp .ge 30, 3) := by decide +kernel
theorem dX8_look_11 : decode cX8_look 11 = .ok (.aload_n 0, 1) := by decide +kernel
theorem dX8_look_12 : decode cX8_look 12 = .ok (.getfield 31, 3) := by decide +kernel
theorem dX8_look_15 : decode cX8_look 15 = .ok (.aload_n 0, 1) := by decide +kernel
theorem dX8_look_16 : decode cX8_look 16 = .ok (.getfield 147, 3) := by decide +kernel
theorem dX8_look_19 : decode cX8_look 19 = .ok (.iaload, 1) := by decide +kernel
theorem dX8_look_20 : decode cX8_look 20 = .ok (.bipush 32, 2) := by decide +kernel
theorem dX8_look_22 : decode cX8_look 22 = .ok (.if_icmp .ne 16, 3) := by decide +kernel
theorem dX8_look_25 : decode cX8_look 25 = .ok (.aload_n 0, 1) := by decide +kernel
theorem dX8_look_26 : decode cX8_look 26 = .ok (.dup, 1) := by decide +kernel
theorem dX8_look_27 : decode cX8_look 27 = .ok (.getfield 147, 3) := by decide +kernel
theorem dX8_look_30 : decode cX8_look 30 = .ok (.iconst 1, 1) := by decide +kernel
theorem dX8_look_31 : decode cX8_look 31 = .ok (.iadd, 1) := by decide +kernel
theorem dX8_look_32 : decode cX8_look 32 = .ok (.putfield 147, 3) := by decide +kernel
theorem dX8_look_35 : decode cX8_look 35 = .ok (.goto (-35), 3) := by decide +kernel
theorem dX8_look_38 : decode cX8_look 38 = .ok (.aload_n 0, 1) := by decide +kernel
theorem dX8_look_39 : decode cX8_look 39 = .ok (.aload_n 0, 1) := by decide +kernel
theorem dX8_look_40 : decode cX8_look 40 = .ok (.getfield 147, 3) := by decide +kernel
theorem dX8_look_43 : decode cX8_look 43 = .ok (.putfield 150, 3) := by decide +kernel
theorem dX8_look_46 : decode cX8_look 46 = .ok (.aload_n 0, 1) := by decide +kernel
theorem dX8_look_47 : decode cX8_look 47 = .ok (.iconst 0, 1) := by decide +kernel
theorem dX8_look_48 : decode cX8_look 48 = .ok (.putfield 153, 3) := by decide +kernel
theorem dX8_look_51 : decode cX8_look 51 = .ok (.aload_n 0, 1) := by decide +kernel
theorem dX8_look_52 : decode cX8_look 52 = .ok (.getfield 147, 3) := by decide +kernel
theorem dX8_look_55 : decode cX8_look 55 = .ok (.aload_n 0, 1) := by decide +kernel
theorem dX8_look_56 : decode cX8_look 56 = .ok (.getfield 144, 3) := by decide +kernel
theorem dX8_look_59 : decode cX8_look 59 = .ok (.if_icmp .ne 11, 3) := by decide +kernel
theorem dX8_look_62 : decode cX8_look 62 = .ok (.aload_n 0, 1) := by decide +kernel
theorem dX8_look_63 : decode cX8_look 63 = .ok (.iconst 0, 1) := by decide +kernel
theorem dX8_look_64 : decode cX8_look 64 = .ok (.putfield 156, 3) := by decide +kernel
theorem dX8_look_67 : decode cX8_look 67 = .ok (.goto 197, 3) := by decide +kernel
theorem dX8_look_70 : decode cX8_look 70 = .ok (.aload_n 0, 1) := by decide +kernel
theorem dX8_look_71 : decode cX8_look 71 = .ok (.getfield 31, 3) := by decide +kernel
theorem dX8_look_74 : decode cX8_look 74 = .ok (.aload_n 0, 1) := by decide +kernel
theorem dX8_look_75 : decode cX8_look 75 = .ok (.getfield 147, 3) := by decide +kernel
theorem dX8_look_78 : decode cX8_look 78 = .ok (.iaload, 1) := by decide +kernel
theorem dX8_look_79 : decode cX8_look 79 = .ok (.invokestatic 159, 3) := by decide +kernel
theorem dX8_look_82 : decode cX8_look 82 = .ok (.ifCond .eq 47, 3) := by decide +kernel
theorem dX8_look_85 : decode cX8_look 85 = .ok (.aload_n 0, 1) := by decide +kernel
theorem dX8_look_86 : decode cX8_look 86 = .ok (.iconst 1, 1) := by decide +kernel
theorem dX8_look_87 : decode cX8_look 87 = .ok (.putfield 156, 3) := by decide +kernel
theorem dX8_look_90 : decode cX8_look 90 = .ok (.aload_n 0, 1) := by decide +kernel
theorem dX8_look_91 : decode cX8_look 91 = .ok (.getfield 147, 3) := by decide +kernel
theorem dX8_look_94 : decode cX8_look 94 = .ok (.aload_n 0, 1) := by decide +kernel
theorem dX8_look_95 : decode cX8_look 95 = .ok (.getfield 144, 3) := by decide +kernel
theorem dX8_look_98 : decode cX8_look 98 = .ok (.if_icmp .ge 166, 3) := by decide +kernel
theorem dX8_look_101 : decode cX8_look 101 = .ok (.aload_n 0, 1) := by decide +kernel
theorem dX8_look_102 : decode cX8_look 102 = .ok (.getfield 31, 3) := by decide +kernel
theorem dX8_look_105 : decode cX8_look 105 = .ok (.aload_n 0, 1) := by decide +kernel
theorem dX8_look_106 : decode cX8_look 106 = .ok (.getfield 147, 3) := by decide +kernel
theorem dX8_look_109 : decode cX8_look 109 = .ok (.iaload, 1) := by decide +kernel
theorem dX8_look_110 : decode cX8_look 110 = .ok (.invokestatic 159, 3) := by decide +kernel
theorem dX8_look_113 : decode cX8_look 113 = .ok (.ifCond .eq 151, 3) := by decide +kernel
theorem dX8_look_116 : decode cX8_look 116 = .ok (.aload_n 0, 1) := by decide +kernel
theorem dX8_look_117 : decode cX8_look 117 = .ok (.dup, 1) := by decide +kernel
theorem dX8_look_118 : decode cX8_look 118 = .ok (.getfield 147, 3) := by decide +kernel
theorem dX8_look_121 : decode cX8_look 121 = .ok (.iconst 1, 1) := by decide +kernel
theorem dX8_look_122 : decode cX8_look 122 = .ok (.iadd, 1) := by decide +kernel
theorem dX8_look_123 : decode cX8_look 123 = .ok (.putfield 147, 3) := by decide +kernel
theorem dX8_look_126 : decode cX8_look 126 = .ok (.goto (-36), 3) := by decide +kernel
theorem dX8_look_129 : decode cX8_look 129 = .ok (.aload_n 0, 1) := by decide +kernel
theorem dX8_look_130 : decode cX8_look 130 = .ok (.getfield 31, 3) := by decide +kernel
theorem dX8_look_133 : decode cX8_look 133 = .ok (.aload_n 0, 1) := by decide +kernel
theorem dX8_look_134 : decode cX8_look 134 = .ok (.getfield 147, 3) := by decide +kernel
theorem dX8_look_137 : decode cX8_look 137 = .ok (.iaload, 1) := by decide +kernel
theorem dX8_look_138 : decode cX8_look 138 = .ok (.invokestatic 163, 3) := by decide +kernel
theorem dX8_look_141 : decode cX8_look 141 = .ok (.ifCond .eq 90, 3) := by decide +kernel
theorem dX8_look_144 : decode cX8_look 144 = .ok (.aload_n 0, 1) := by decide +kernel
theorem dX8_look_145 : decode cX8_look 145 = .ok (.iconst 2, 1) := by decide +kernel
theorem dX8_look_146 : decode cX8_look 146 = .ok (.putfield 156, 3) := by decide +kernel
theorem dX8_look_149 : decode cX8_look 149 = .ok (.aload_n 0, 1) := by decide +kernel
theorem dX8_look_150 : decode cX8_look 150 = .ok (.getfield 147, 3) := by decide +kernel
theorem dX8_look_153 : decode cX8_look 153 = .ok (.aload_n 0, 1) := by decide +kernel
theorem dX8_look_154 : decode cX8_look 154 = .ok (.getfield 144, 3) := by decide +kernel
theorem dX8_look_157 : decode cX8_look 157 = .ok (.if_icmp .ge 107, 3) := by decide +kernel
theorem dX8_look_160 : decode cX8_look 160 = .ok (.aload_n 0, 1) := by decide +kernel
theorem dX8_look_161 : decode cX8_look 161 = .ok (.getfield 31, 3) := by decide +kernel
theorem dX8_look_164 : decode cX8_look 164 = .ok (.aload_n 0, 1) := by decide +kernel
theorem dX8_look_165 : decode cX8_look 165 = .ok (.getfield 147, 3) := by decide +kernel
theorem dX8_look_168 : decode cX8_look 168 = .ok (.iaload, 1) := by decide +kernel
theorem dX8_look_169 : decode cX8_look 169 = .ok (.invokestatic 163, 3) := by decide +kernel
theorem dX8_look_172 : decode cX8_look 172 = .ok (.ifCond .eq 92, 3) := by decide +kernel
theorem dX8_look_175 : decode cX8_look 175 = .ok (.aload_n 0, 1) := by decide +kernel
theorem dX8_look_176 : decode cX8_look 176 = .ok (.aload_n 0, 1) := by decide +kernel
theorem dX8_look_177 : decode cX8_look 177 = .ok (.getfield 147, 3) := by decide +kernel
theorem dX8_look_180 : decode cX8_look 180 = .ok (.aload_n 0, 1) := by decide +kernel
theorem dX8_look_181 : decode cX8_look 181 = .ok (.getfield 150, 3) := by decide +kernel
theorem dX8_look_184 : decode cX8_look 184 = .ok (.isub, 1) := by decide +kernel
theorem dX8_look_185 : decode cX8_look 185 = .ok (.iconst 3, 1) := by decide +kernel
theorem dX8_look_186 : decode cX8_look 186 = .ok (.if_icmp .ge 26, 3) := by decide +kernel
theorem dX8_look_189 : decode cX8_look 189 = .ok (.aload_n 0, 1) := by decide +kernel
theorem dX8_look_190 : decode cX8_look 190 = .ok (.getfield 153, 3) := by decide +kernel
theorem dX8_look_193 : decode cX8_look 193 = .ok (.bipush 10, 2) := by decide +kernel
theorem dX8_look_195 : decode cX8_look 195 = .ok (.imul, 1) := by decide +kernel
theorem dX8_look_196 : decode cX8_look 196 = .ok (.aload_n 0, 1) := by decide +kernel
theorem dX8_look_197 : decode cX8_look 197 = .ok (.getfield 31, 3) := by decide +kernel
theorem dX8_look_200 : decode cX8_look 200 = .ok (.aload_n 0, 1) := by decide +kernel
theorem dX8_look_201 : decode cX8_look 201 = .ok (.getfield 147, 3) := by decide +kernel
theorem dX8_look_204 : decode cX8_look 204 = .ok (.iaload, 1) := by decide +kernel
theorem dX8_look_205 : decode cX8_look 205 = .ok (.iadd, 1) := by decide +kernel
theorem dX8_look_206 : decode cX8_look 206 = .ok (.bipush 48, 2) := by decide +kernel
theorem dX8_look_208 : decode cX8_look 208 = .ok (.isub, 1) := by decide +kernel
theorem dX8_look_209 : decode cX8_look 209 = .ok (.goto 6, 3) := by decide +kernel
theorem dX8_look_212 : decode cX8_look 212 = .ok (.sipush 1000, 3) := by decide +kernel
theorem dX8_look_215 : decode cX8_look 215 = .ok (.putfield 153, 3) := by decide +kernel
theorem dX8_look_218 : decode cX8_look 218 = .ok (.aload_n 0, 1) := by decide +kernel
theorem dX8_look_219 : decode cX8_look 219 = .ok (.dup, 1) := by decide +kernel
theorem dX8_look_220 : decode cX8_look 220 = .ok (.getfield 147, 3) := by decide +kernel
theorem dX8_look_223 : decode cX8_look 223 = .ok (.iconst 1, 1) := by decide +kernel
theorem dX8_look_224 : decode cX8_look 224 = .ok (.iadd, 1) := by decide +kernel
theorem dX8_look_225 : decode cX8_look 225 = .ok (.putfield 147, 3) := by decide +kernel
theorem dX8_look_228 : decode cX8_look 228 = .ok (.goto (-79), 3) := by decide +kernel
theorem dX8_look_231 : decode cX8_look 231 = .ok (.aload_n 0, 1) := by decide +kernel
theorem dX8_look_232 : decode cX8_look 232 = .ok (.aload_n 0, 1) := by decide +kernel
theorem dX8_look_233 : decode cX8_look 233 = .ok (.getfield 31, 3) := by decide +kernel
theorem dX8_look_236 : decode cX8_look 236 = .ok (.aload_n 0, 1) := by decide +kernel
theorem dX8_look_237 : decode cX8_look 237 = .ok (.getfield 147, 3) := by decide +kernel
theorem dX8_look_240 : decode cX8_look 240 = .ok (.iaload, 1) := by decide +kernel
theorem dX8_look_241 : decode cX8_look 241 = .ok (.bipush 59, 2) := by decide +kernel
theorem dX8_look_243 : decode cX8_look 243 = .ok (.if_icmp .ne 7, 3) := by decide +kernel
theorem dX8_look_246 : decode cX8_look 246 = .ok (.iconst 3, 1) := by decide +kernel
theorem dX8_look_247 : decode cX8_look 247 = .ok (.goto 4, 3) := by decide +kernel
theorem dX8_look_250 : decode cX8_look 250 = .ok (.iconst 4, 1) := by decide +kernel
theorem dX8_look_251 : decode cX8_look 251 = .ok (.putfield 156, 3) := by decide +kernel
theorem dX8_look_254 : decode cX8_look 254 = .ok (.aload_n 0, 1) := by decide +kernel
theorem dX8_look_255 : decode cX8_look 255 = .ok (.dup, 1) := by decide +kernel
theorem dX8_look_256 : decode cX8_look 256 = .ok (.getfield 147, 3) := by decide +kernel
theorem dX8_look_259 : decode cX8_look 259 = .ok (.iconst 1, 1) := by decide +kernel
theorem dX8_look_260 : decode cX8_look 260 = .ok (.iadd, 1) := by decide +kernel
theorem dX8_look_261 : decode cX8_look 261 = .ok (.putfield 147, 3) := by decide +kernel
theorem dX8_look_264 : decode cX8_look 264 = .ok (.return_, 1) := by decide +kernel
theorem dX8_wrong_0 : decode cX8_wrong 0 = .ok (.aload_n 0, 1) := by decide +kernel
theorem dX8_wrong_1 : decode cX8_wrong 1 = .ok (.aload_n 0, 1) := by decide +kernel
theorem dX8_wrong_2 : decode cX8_wrong 2 = .ok (.getfield 150, 3) := by decide +kernel
theorem dX8_wrong_5 : decode cX8_wrong 5 = .ok (.putfield 166, 3) := by decide +kernel
theorem dX8_wrong_8 : decode cX8_wrong 8 = .ok (.iconst 0, 1) := by decide +kernel
theorem dX8_wrong_9 : decode cX8_wrong 9 = .ok (.ireturn, 1) := by decide +kernel
theorem dX8_isWord_0 : decode cX8_isWord 0 = .ok (.aload_n 0, 1) := by decide +kernel
theorem dX8_isWord_1 : decode cX8_isWord 1 = .ok (.getfield 156, 3) := by decide +kernel
theorem dX8_isWord_4 : decode cX8_isWord 4 = .ok (.iconst 1, 1) := by decide +kernel
theorem dX8_isWord_5 : decode cX8_isWord 5 = .ok (.if_icmp .ne 19, 3) := by decide +kernel
theorem dX8_isWord_8 : decode cX8_isWord 8 = .ok (.aload_n 0, 1) := by decide +kernel
theorem dX8_isWord_9 : decode cX8_isWord 9 = .ok (.getfield 147, 3) := by decide +kernel
theorem dX8_isWord_12 : decode cX8_isWord 12 = .ok (.aload_n 0, 1) := by decide +kernel
theorem dX8_isWord_13 : decode cX8_isWord 13 = .ok (.getfield 150, 3) := by decide +kernel
theorem dX8_isWord_16 : decode cX8_isWord 16 = .ok (.isub, 1) := by decide +kernel
theorem dX8_isWord_17 : decode cX8_isWord 17 = .ok (.aload_n 1, 1) := by decide +kernel
theorem dX8_isWord_18 : decode cX8_isWord 18 = .ok (.invokevirtual 169, 3) := by decide +kernel
theorem dX8_isWord_21 : decode cX8_isWord 21 = .ok (.if_icmp .eq 5, 3) := by decide +kernel
theorem dX8_isWord_24 : decode cX8_isWord 24 = .ok (.iconst 0, 1) := by decide +kernel
theorem dX8_isWord_25 : decode cX8_isWord 25 = .ok (.ireturn, 1) := by decide +kernel
theorem dX8_isWord_26 : decode cX8_isWord 26 = .ok (.iconst 0, 1) := by decide +kernel
theorem dX8_isWord_27 : decode cX8_isWord 27 = .ok (.istore_n 2, 1) := by decide +kernel
theorem dX8_isWord_28 : decode cX8_isWord 28 = .ok (.iload_n 2, 1) := by decide +kernel
theorem dX8_isWord_29 : decode cX8_isWord 29 = .ok (.aload_n 1, 1) := by decide +kernel
theorem dX8_isWord_30 : decode cX8_isWord 30 = .ok (.invokevirtual 169, 3) := by decide +kernel
theorem dX8_isWord_33 : decode cX8_isWord 33 = .ok (.if_icmp .ge 30, 3) := by decide +kernel
theorem dX8_isWord_36 : decode cX8_isWord 36 = .ok (.aload_n 0, 1) := by decide +kernel
theorem dX8_isWord_37 : decode cX8_isWord 37 = .ok (.getfield 31, 3) := by decide +kernel
theorem dX8_isWord_40 : decode cX8_isWord 40 = .ok (.aload_n 0, 1) := by decide +kernel
theorem dX8_isWord_41 : decode cX8_isWord 41 = .ok (.getfield 150, 3) := by decide +kernel
theorem dX8_isWord_44 : decode cX8_isWord 44 = .ok (.iload_n 2, 1) := by decide +kernel
theorem dX8_isWord_45 : decode cX8_isWord 45 = .ok (.iadd, 1) := by decide +kernel
theorem dX8_isWord_46 : decode cX8_isWord 46 = .ok (.iaload, 1) := by decide +kernel
theorem dX8_isWord_47 : decode cX8_isWord 47 = .ok (.aload_n 1, 1) := by decide +kernel
theorem dX8_isWord_48 : decode cX8_isWord 48 = .ok (.iload_n 2, 1) := by decide +kernel
theorem dX8_isWord_49 : decode cX8_isWord 49 = .ok (.invokevirtual 175, 3) := by decide +kernel
theorem dX8_isWord_52 : decode cX8_isWord 52 = .ok (.if_icmp .eq 5, 3) := by decide +kernel
theorem dX8_isWord_55 : decode cX8_isWord 55 = .ok (.iconst 0, 1) := by decide +kernel
theorem dX8_isWord_56 : decode cX8_isWord 56 = .ok (.ireturn, 1) := by decide +kernel
theorem dX8_isWord_57 : decode cX8_isWord 57 = .ok (.iinc 2 1, 3) := by decide +kernel
theorem dX8_isWord_60 : decode cX8_isWord 60 = .ok (.goto (-32), 3) := by decide +kernel
theorem dX8_isWord_63 : decode cX8_isWord 63 = .ok (.iconst 1, 1) := by decide +kernel
theorem dX8_isWord_64 : decode cX8_isWord 64 = .ok (.ireturn, 1) := by decide +kernel
theorem dX8_number_0 : decode cX8_number 0 = .ok (.aload_n 0, 1) := by decide +kernel
theorem dX8_number_1 : decode cX8_number 1 = .ok (.getfield 156, 3) := by decide +kernel
theorem dX8_number_4 : decode cX8_number 4 = .ok (.iconst 2, 1) := by decide +kernel
theorem dX8_number_5 : decode cX8_number 5 = .ok (.if_icmp .ne 18, 3) := by decide +kernel
theorem dX8_number_8 : decode cX8_number 8 = .ok (.aload_n 0, 1) := by decide +kernel
theorem dX8_number_9 : decode cX8_number 9 = .ok (.getfield 153, 3) := by decide +kernel
theorem dX8_number_12 : decode cX8_number 12 = .ok (.i2l, 1) := by decide +kernel
theorem dX8_number_13 : decode cX8_number 13 = .ok (.iload_n 2, 1) := by decide +kernel
theorem dX8_number_14 : decode cX8_number 14 = .ok (.i2l, 1) := by decide +kernel
theorem dX8_number_15 : decode cX8_number 15 = .ok (.iload_n 3, 1) := by decide +kernel
theorem dX8_number_16 : decode cX8_number 16 = .ok (.i2l, 1) := by decide +kernel
theorem dX8_number_17 : decode cX8_number 17 = .ok (.invokestatic 91, 3) := by decide +kernel
theorem dX8_number_20 : decode cX8_number 20 = .ok (.ifCond .ne 8, 3) := by decide +kernel
theorem dX8_number_23 : decode cX8_number 23 = .ok (.aload_n 0, 1) := by decide +kernel
theorem dX8_number_24 : decode cX8_number 24 = .ok (.invokevirtual 179, 3) := by decide +kernel
theorem dX8_number_27 : decode cX8_number 27 = .ok (.ireturn, 1) := by decide +kernel
theorem dX8_number_28 : decode cX8_number 28 = .ok (.aload_n 0, 1) := by decide +kernel
theorem dX8_number_29 : decode cX8_number 29 = .ok (.getfield 68, 3) := by decide +kernel
theorem dX8_number_32 : decode cX8_number 32 = .ok (.iload_n 1, 1) := by decide +kernel
theorem dX8_number_33 : decode cX8_number 33 = .ok (.aload_n 0, 1) := by decide +kernel
theorem dX8_number_34 : decode cX8_number 34 = .ok (.getfield 153, 3) := by decide +kernel
theorem dX8_number_37 : decode cX8_number 37 = .ok (.iastore, 1) := by decide +kernel
theorem dX8_number_38 : decode cX8_number 38 = .ok (.aload_n 0, 1) := by decide +kernel
theorem dX8_number_39 : decode cX8_number 39 = .ok (.invokevirtual 183, 3) := by decide +kernel
theorem dX8_number_42 : decode cX8_number 42 = .ok (.iconst 1, 1) := by decide +kernel
theorem dX8_number_43 : decode cX8_number 43 = .ok (.ireturn, 1) := by decide +kernel
theorem dX8_tells_0 : decode cX8_tells 0 = .ok (.aload_n 0, 1) := by decide +kernel
theorem dX8_tells_1 : decode cX8_tells 1 = .ok (.invokevirtual 183, 3) := by decide +kernel
theorem dX8_tells_4 : decode cX8_tells 4 = .ok (.aload_n 0, 1) := by decide +kernel
theorem dX8_tells_5 : decode cX8_tells 5 = .ok (.iconst 0, 1) := by decide +kernel
theorem dX8_tells_6 : decode cX8_tells 6 = .ok (.iload_n 1, 1) := by decide +kernel
theorem dX8_tells_7 : decode cX8_tells 7 = .ok (.iload_n 2, 1) := by decide +kernel
theorem dX8_tells_8 : decode cX8_tells 8 = .ok (.invokevirtual 186, 3) := by decide +kernel
theorem dX8_tells_11 : decode cX8_tells 11 = .ok (.ireturn, 1) := by decide +kernel
theorem dX8_tellsOne_0 : decode cX8_tellsOne 0 = .ok (.aload_n 0, 1) := by decide +kernel
theorem dX8_tellsOne_1 : decode cX8_tellsOne 1 = .ok (.ldc 190, 2) := by decide +kernel
theorem dX8_tellsOne_3 : decode cX8_tellsOne 3 = .ok (.invokevirtual 191, 3) := by decide +kernel
theorem dX8_tellsOne_6 : decode cX8_tellsOne 6 = .ok (.istore_n 1, 1) := by decide +kernel
theorem dX8_tellsOne_7 : decode cX8_tellsOne 7 = .ok (.aload_n 0, 1) := by decide +kernel
theorem dX8_tellsOne_8 : decode cX8_tellsOne 8 = .ok (.iconst 0, 1) := by decide +kernel
theorem dX8_tellsOne_9 : decode cX8_tellsOne 9 = .ok (.aload_n 0, 1) := by decide +kernel
theorem dX8_tellsOne_10 : decode cX8_tellsOne 10 = .ok (.getfield 88, 3) := by decide +kernel
theorem dX8_tellsOne_13 : decode cX8_tellsOne 13 = .ok (.iconst 1, 1) := by decide +kernel
theorem dX8_tellsOne_14 : decode cX8_tellsOne 14 = .ok (.isub, 1) := by decide +kernel
theorem dX8_tellsOne_15 : decode cX8_tellsOne 15 = .ok (.invokevirtual 195, 3) := by decide +kernel
theorem dX8_tellsOne_18 : decode cX8_tellsOne 18 = .ok (.ifCond .eq 27, 3) := by decide +kernel
theorem dX8_tellsOne_21 : decode cX8_tellsOne 21 = .ok (.aload_n 0, 1) := by decide +kernel
theorem dX8_tellsOne_22 : decode cX8_tellsOne 22 = .ok (.iconst 1, 1) := by decide +kernel
theorem dX8_tellsOne_23 : decode cX8_tellsOne 23 = .ok (.iconst 0, 1) := by decide +kernel
theorem dX8_tellsOne_24 : decode cX8_tellsOne 24 = .ok (.iload_n 1, 1) := by decide +kernel
theorem dX8_tellsOne_25 : decode cX8_tellsOne 25 = .ok (.ifCond .eq 8, 3) := by decide +kernel
theorem dX8_tellsOne_28 : decode cX8_tellsOne 28 = .ok (.bipush 9, 2) := by decide +kernel
theorem dX8_tellsOne_30 : decode cX8_tellsOne 30 = .ok (.goto 5, 3) := by decide +kernel
theorem dX8_tellsOne_33 : decode cX8_tellsOne 33 = .ok (.bipush 40, 2) := by decide +kernel
theorem dX8_tellsOne_35 : decode cX8_tellsOne 35 = .ok (.invokevirtual 186, 3) := by decide +kernel
theorem dX8_tellsOne_38 : decode cX8_tellsOne 38 = .ok (.ifCond .eq 7, 3) := by decide +kernel
theorem dX8_tellsOne_41 : decode cX8_tellsOne 41 = .ok (.iconst 1, 1) := by decide +kernel
theorem dX8_tellsOne_42 : decode cX8_tellsOne 42 = .ok (.goto 4, 3) := by decide +kernel
theorem dX8_tellsOne_45 : decode cX8_tellsOne 45 = .ok (.iconst 0, 1) := by decide +kernel
theorem dX8_tellsOne_46 : decode cX8_tellsOne 46 = .ok (.istore_n 2, 1) := by decide +kernel
theorem dX8_tellsOne_47 : decode cX8_tellsOne 47 = .ok (.iload_n 2, 1) := by decide +kernel
theorem dX8_tellsOne_48 : decode cX8_tellsOne 48 = .ok (.ifCond .eq 27, 3) := by decide +kernel
theorem dX8_tellsOne_51 : decode cX8_tellsOne 51 = .ok (.iload_n 1, 1) := by decide +kernel
theorem dX8_tellsOne_52 : decode cX8_tellsOne 52 = .ok (.ifCond .eq 23, 3) := by decide +kernel
theorem dX8_tellsOne_55 : decode cX8_tellsOne 55 = .ok (.aload_n 0, 1) := by decide +kernel
theorem dX8_tellsOne_56 : decode cX8_tellsOne 56 = .ok (.getfield 59, 3) := by decide +kernel
theorem dX8_tellsOne_59 : decode cX8_tellsOne 59 = .ok (.aload_n 0, 1) := by decide +kernel
theorem dX8_tellsOne_60 : decode cX8_tellsOne 60 = .ok (.getfield 68, 3) := by decide +kernel
theorem dX8_tellsOne_63 : decode cX8_tellsOne 63 = .ok (.iconst 0, 1) := by decide +kernel
theorem dX8_tellsOne_64 : decode cX8_tellsOne 64 = .ok (.iaload, 1) := by decide +kernel
theorem dX8_tellsOne_65 : decode cX8_tellsOne 65 = .ok (.aload_n 0, 1) := by decide +kernel
theorem dX8_tellsOne_66 : decode cX8_tellsOne 66 = .ok (.getfield 68, 3) := by decide +kernel
theorem dX8_tellsOne_69 : decode cX8_tellsOne 69 = .ok (.iconst 1, 1) := by decide +kernel
theorem dX8_tellsOne_70 : decode cX8_tellsOne 70 = .ok (.iaload, 1) := by decide +kernel
theorem dX8_tellsOne_71 : decode cX8_tellsOne 71 = .ok (.iastore, 1) := by decide +kernel
theorem dX8_tellsOne_72 : decode cX8_tellsOne 72 = .ok (.goto 24, 3) := by decide +kernel
theorem dX8_tellsOne_75 : decode cX8_tellsOne 75 = .ok (.iload_n 2, 1) := by decide +kernel
theorem dX8_tellsOne_76 : decode cX8_tellsOne 76 = .ok (.ifCond .eq 20, 3) := by decide +kernel
theorem dX8_tellsOne_79 : decode cX8_tellsOne 79 = .ok (.aload_n 0, 1) := by decide +kernel
theorem dX8_tellsOne_80 : decode cX8_tellsOne 80 = .ok (.getfield 62, 3) := by decide +kernel
theorem dX8_tellsOne_83 : decode cX8_tellsOne 83 = .ok (.aload_n 0, 1) := by decide +kernel
theorem dX8_tellsOne_84 : decode cX8_tellsOne 84 = .ok (.getfield 68, 3) := by decide +kernel
theorem dX8_tellsOne_87 : decode cX8_tellsOne 87 = .ok (.iconst 0, 1) := by decide +kernel
theorem dX8_tellsOne_88 : decode cX8_tellsOne 88 = .ok (.iaload, 1) := by decide +kernel
theorem dX8_tellsOne_89 : decode cX8_tellsOne 89 = .ok (.aload_n 0, 1) := by decide +kernel
theorem dX8_tellsOne_90 : decode cX8_tellsOne 90 = .ok (.getfield 68, 3) := by decide +kernel
theorem dX8_tellsOne_93 : decode cX8_tellsOne 93 = .ok (.iconst 1, 1) := by decide +kernel
theorem dX8_tellsOne_94 : decode cX8_tellsOne 94 = .ok (.iaload, 1) := by decide +kernel
theorem dX8_tellsOne_95 : decode cX8_tellsOne 95 = .ok (.iastore, 1) := by decide +kernel
theorem dX8_tellsOne_96 : decode cX8_tellsOne 96 = .ok (.iload_n 2, 1) := by decide +kernel
theorem dX8_tellsOne_97 : decode cX8_tellsOne 97 = .ok (.ireturn, 1) := by decide +kernel
theorem dX8_statement_0 : decode cX8_statement 0 = .ok (.aload_n 0, 1) := by decide +kernel
theorem dX8_statement_1 : decode cX8_statement 1 = .ok (.ldc 198, 2) := by decide +kernel
theorem dX8_statement_3 : decode cX8_statement 3 = .ok (.invokevirtual 191, 3) := by decide +kernel
theorem dX8_statement_6 : decode cX8_statement 6 = .ok (.ifCond .eq 77, 3) := by decide +kernel
theorem dX8_statement_9 : decode cX8_statement 9 = .ok (.aload_n 0, 1) := by decide +kernel
theorem dX8_statement_10 : decode cX8_statement 10 = .ok (.getfield 88, 3) := by decide +kernel
theorem dX8_statement_13 : decode cX8_statement 13 = .ok (.bipush 8, 2) := by decide +kernel
theorem dX8_statement_15 : decode cX8_statement 15 = .ok (.if_icmp .ge 68, 3) := by decide +kernel
theorem dX8_statement_18 : decode cX8_statement 18 = .ok (.aload_n 0, 1) := by decide +kernel
theorem dX8_statement_19 : decode cX8_statement 19 = .ok (.iconst 0, 1) := by decide +kernel
theorem dX8_statement_20 : decode cX8_statement 20 = .ok (.iconst 5, 1) := by decide +kernel
theorem dX8_statement_21 : decode cX8_statement 21 = .ok (.invokevirtual 195, 3) := by decide +kernel
theorem dX8_statement_24 : decode cX8_statement 24 = .ok (.ifCond .eq 29, 3) := by decide +kernel
theorem dX8_statement_27 : decode cX8_statement 27 = .ok (.aload_n 0, 1) := by decide +kernel
theorem dX8_statement_28 : decode cX8_statement 28 = .ok (.iconst 1, 1) := by decide +kernel
theorem dX8_statement_29 : decode cX8_statement 29 = .ok (.iconst 0, 1) := by decide +kernel
theorem dX8_statement_30 : decode cX8_statement 30 = .ok (.bipush 9, 2) := by decide +kernel
theorem dX8_statement_32 : decode cX8_statement 32 = .ok (.invokevirtual 186, 3) := by decide +kernel
theorem dX8_statement_35 : decode cX8_statement 35 = .ok (.ifCond .eq 18, 3) := by decide +kernel
theorem dX8_statement_38 : decode cX8_statement 38 = .ok (.aload_n 0, 1) := by decide +kernel
theorem dX8_statement_39 : decode cX8_statement 39 = .ok (.iconst 2, 1) := by decide +kernel
theorem dX8_statement_40 : decode cX8_statement 40 = .ok (.iconst 0, 1) := by decide +kernel
theorem dX8_statement_41 : decode cX8_statement 41 = .ok (.bipush 20, 2) := by decide +kernel
theorem dX8_statement_43 : decode cX8_statement 43 = .ok (.invokevirtual 186, 3) := by decide +kernel
theorem dX8_statement_46 : decode cX8_statement 46 = .ok (.ifCond .eq 7, 3) := by decide +kernel
theorem dX8_statement_49 : decode cX8_statement 49 = .ok (.iconst 1, 1) := by decide +kernel
theorem dX8_statement_50 : decode cX8_statement 50 = .ok (.goto 4, 3) := by decide +kernel
theorem dX8_statement_53 : decode cX8_statement 53 = .ok (.iconst 0, 1) := by decide +kernel
theorem dX8_statement_54 : decode cX8_statement 54 = .ok (.istore_n 1, 1) := by decide +kernel
theorem dX8_statement_55 : decode cX8_statement 55 = .ok (.iload_n 1, 1) := by decide +kernel
theorem dX8_statement_56 : decode cX8_statement 56 = .ok (.ifCond .eq 25, 3) := by decide +kernel
theorem dX8_statement_59 : decode cX8_statement 59 = .ok (.aload_n 0, 1) := by decide +kernel
theorem dX8_statement_60 : decode cX8_statement 60 = .ok (.aload_n 0, 1) := by decide +kernel
theorem dX8_statement_61 : decode cX8_statement 61 = .ok (.getfield 68, 3) := by decide +kernel
theorem dX8_statement_64 : decode cX8_statement 64 = .ok (.iconst 0, 1) := by decide +kernel
theorem dX8_statement_65 : decode cX8_statement 65 = .ok (.iaload, 1) := by decide +kernel
theorem dX8_statement_66 : decode cX8_statement 66 = .ok (.aload_n 0, 1) := by decide +kernel
theorem dX8_statement_67 : decode cX8_statement 67 = .ok (.getfield 68, 3) := by decide +kernel
theorem dX8_statement_70 : decode cX8_statement 70 = .ok (.iconst 1, 1) := by decide +kernel
theorem dX8_statement_71 : decode cX8_statement 71 = .ok (.iaload, 1) := by decide +kernel
theorem dX8_statement_72 : decode cX8_statement 72 = .ok (.aload_n 0, 1) := by decide +kernel
theorem dX8_statement_73 : decode cX8_statement 73 = .ok (.getfield 68, 3) := by decide +kernel
theorem dX8_statement_76 : decode cX8_statement 76 = .ok (.iconst 2, 1) := by decide +kernel
theorem dX8_statement_77 : decode cX8_statement 77 = .ok (.iaload, 1) := by decide +kernel
theorem dX8_statement_78 : decode cX8_statement 78 = .ok (.invokevirtual 129, 3) := by decide +kernel
theorem dX8_statement_81 : decode cX8_statement 81 = .ok (.iload_n 1, 1) := by decide +kernel
theorem dX8_statement_82 : decode cX8_statement 82 = .ok (.ireturn, 1) := by decide +kernel
theorem dX8_statement_83 : decode cX8_statement 83 = .ok (.aload_n 0, 1) := by decide +kernel
theorem dX8_statement_84 : decode cX8_statement 84 = .ok (.ldc 200, 2) := by decide +kernel
theorem dX8_statement_86 : decode cX8_statement 86 = .ok (.invokevirtual 191, 3) := by decide +kernel
theorem dX8_statement_89 : decode cX8_statement 89 = .ok (.ifCond .ne 12, 3) := by decide +kernel
theorem dX8_statement_92 : decode cX8_statement 92 = .ok (.aload_n 0, 1) := by decide +kernel
theorem dX8_statement_93 : decode cX8_statement 93 = .ok (.ldc 190, 2) := by decide +kernel
theorem dX8_statement_95 : decode cX8_statement 95 = .ok (.invokevirtual 191, 3) := by decide +kernel
theorem dX8_statement_98 : decode cX8_statement 98 = .ok (.ifCond .eq 8, 3) := by decide +kernel
theorem dX8_statement_101 : decode cX8_statement 101 = .ok (.aload_n 0, 1) := by decide +kernel
theorem dX8_statement_102 : decode cX8_statement 102 = .ok (.invokevirtual 202, 3) := by decide +kernel
theorem dX8_statement_105 : decode cX8_statement 105 = .ok (.ireturn, 1) := by decide +kernel
theorem dX8_statement_106 : decode cX8_statement 106 = .ok (.aload_n 0, 1) := by decide +kernel
theorem dX8_statement_107 : decode cX8_statement 107 = .ok (.ldc 205, 2) := by decide +kernel
theorem dX8_statement_109 : decode cX8_statement 109 = .ok (.invokevirtual 191, 3) := by decide +kernel
theorem dX8_statement_112 : decode cX8_statement 112 = .ok (.ifCond .eq 34, 3) := by decide +kernel
theorem dX8_statement_115 : decode cX8_statement 115 = .ok (.aload_n 0, 1) := by decide +kernel
theorem dX8_statement_116 : decode cX8_statement 116 = .ok (.iconst 0, 1) := by decide +kernel
theorem dX8_statement_117 : decode cX8_statement 117 = .ok (.bipush 40, 2) := by decide +kernel
theorem dX8_statement_119 : decode cX8_statement 119 = .ok (.invokevirtual 195, 3) := by decide +kernel
theorem dX8_statement_122 : decode cX8_statement 122 = .ok (.istore_n 1, 1) := by decide +kernel
theorem dX8_statement_123 : decode cX8_statement 123 = .ok (.aload_n 0, 1) := by decide +kernel
theorem dX8_statement_124 : decode cX8_statement 124 = .ok (.iload_n 1, 1) := by decide +kernel
theorem dX8_statement_125 : decode cX8_statement 125 = .ok (.ifCond .eq 12, 3) := by decide +kernel
theorem dX8_statement_128 : decode cX8_statement 128 = .ok (.aload_n 0, 1) := by decide +kernel
theorem dX8_statement_129 : decode cX8_statement 129 = .ok (.getfield 68, 3) := by decide +kernel
theorem dX8_statement_132 : decode cX8_statement 132 = .ok (.iconst 0, 1) := by decide +kernel
theorem dX8_statement_133 : decode cX8_statement 133 = .ok (.iaload, 1) := by decide +kernel
theorem dX8_statement_134 : decode cX8_statement 134 = .ok (.goto 7, 3) := by decide +kernel
theorem dX8_statement_137 : decode cX8_statement 137 = .ok (.aload_n 0, 1) := by decide +kernel
theorem dX8_statement_138 : decode cX8_statement 138 = .ok (.getfield 37, 3) := by decide +kernel
theorem dX8_statement_141 : decode cX8_statement 141 = .ok (.putfield 37, 3) := by decide +kernel
theorem dX8_statement_144 : decode cX8_statement 144 = .ok (.iload_n 1, 1) := by decide +kernel
theorem dX8_statement_145 : decode cX8_statement 145 = .ok (.ireturn, 1) := by decide +kernel
theorem dX8_statement_146 : decode cX8_statement 146 = .ok (.aload_n 0, 1) := by decide +kernel
theorem dX8_statement_147 : decode cX8_statement 147 = .ok (.ldc 206, 2) := by decide +kernel
theorem dX8_statement_149 : decode cX8_statement 149 = .ok (.invokevirtual 191, 3) := by decide +kernel
theorem dX8_statement_152 : decode cX8_statement 152 = .ok (.ifCond .eq 33, 3) := by decide +kernel
theorem dX8_statement_155 : decode cX8_statement 155 = .ok (.aload_n 0, 1) := by decide +kernel
theorem dX8_statement_156 : decode cX8_statement 156 = .ok (.iconst 0, 1) := by decide +kernel
theorem dX8_statement_157 : decode cX8_statement 157 = .ok (.iconst 5, 1) := by decide +kernel
theorem dX8_statement_158 : decode cX8_statement 158 = .ok (.invokevirtual 195, 3) := by decide +kernel
theorem dX8_statement_161 : decode cX8_statement 161 = .ok (.istore_n 1, 1) := by decide +kernel
theorem dX8_statement_162 : decode cX8_statement 162 = .ok (.aload_n 0, 1) := by decide +kernel
theorem dX8_statement_163 : decode cX8_statement 163 = .ok (.iload_n 1, 1) := by decide +kernel
theorem dX8_statement_164 : decode cX8_statement 164 = .ok (.ifCond .eq 12, 3) := by decide +kernel
theorem dX8_statement_167 : decode cX8_statement 167 = .ok (.aload_n 0, 1) := by decide +kernel
theorem dX8_statement_168 : decode cX8_statement 168 = .ok (.getfield 68, 3) := by decide +kernel
theorem dX8_statement_171 : decode cX8_statement 171 = .ok (.iconst 0, 1) := by decide +kernel
theorem dX8_statement_172 : decode cX8_statement 172 = .ok (.iaload, 1) := by decide +kernel
theorem dX8_statement_173 : decode cX8_statement 173 = .ok (.goto 7, 3) := by decide +kernel
theorem dX8_statement_176 : decode cX8_statement 176 = .ok (.aload_n 0, 1) := by decide +kernel
theorem dX8_statement_177 : decode cX8_statement 177 = .ok (.getfield 41, 3) := by decide +kernel
theorem dX8_statement_180 : decode cX8_statement 180 = .ok (.putfield 41, 3) := by decide +kernel
theorem dX8_statement_183 : decode cX8_statement 183 = .ok (.iload_n 1, 1) := by decide +kernel
theorem dX8_statement_184 : decode cX8_statement 184 = .ok (.ireturn, 1) := by decide +kernel
theorem dX8_statement_185 : decode cX8_statement 185 = .ok (.aload_n 0, 1) := by decide +kernel
theorem dX8_statement_186 : decode cX8_statement 186 = .ok (.ldc 207, 2) := by decide +kernel
theorem dX8_statement_188 : decode cX8_statement 188 = .ok (.invokevirtual 191, 3) := by decide +kernel
theorem dX8_statement_191 : decode cX8_statement 191 = .ok (.ifCond .eq 35, 3) := by decide +kernel
theorem dX8_statement_194 : decode cX8_statement 194 = .ok (.aload_n 0, 1) := by decide +kernel
theorem dX8_statement_195 : decode cX8_statement 195 = .ok (.iconst 0, 1) := by decide +kernel
theorem dX8_statement_196 : decode cX8_statement 196 = .ok (.sipush 999, 3) := by decide +kernel
theorem dX8_statement_199 : decode cX8_statement 199 = .ok (.invokevirtual 195, 3) := by decide +kernel
theorem dX8_statement_202 : decode cX8_statement 202 = .ok (.istore_n 1, 1) := by decide +kernel
theorem dX8_statement_203 : decode cX8_statement 203 = .ok (.aload_n 0, 1) := by decide +kernel
theorem dX8_statement_204 : decode cX8_statement 204 = .ok (.iload_n 1, 1) := by decide +kernel
theorem dX8_statement_205 : decode cX8_statement 205 = .ok (.ifCond .eq 12, 3) := by decide +kernel
theorem dX8_statement_208 : decode cX8_statement 208 = .ok (.aload_n 0, 1) := by decide +kernel
theorem dX8_statement_209 : decode cX8_statement 209 = .ok (.getfield 68, 3) := by decide +kernel
theorem dX8_statement_212 : decode cX8_statement 212 = .ok (.iconst 0, 1) := by decide +kernel
theorem dX8_statement_213 : decode cX8_statement 213 = .ok (.iaload, 1) := by decide +kernel
theorem dX8_statement_214 : decode cX8_statement 214 = .ok (.goto 7, 3) := by decide +kernel
theorem dX8_statement_217 : decode cX8_statement 217 = .ok (.aload_n 0, 1) := by decide +kernel
theorem dX8_statement_218 : decode cX8_statement 218 = .ok (.getfield 139, 3) := by decide +kernel
theorem dX8_statement_221 : decode cX8_statement 221 = .ok (.putfield 139, 3) := by decide +kernel
theorem dX8_statement_224 : decode cX8_statement 224 = .ok (.iload_n 1, 1) := by decide +kernel
theorem dX8_statement_225 : decode cX8_statement 225 = .ok (.ireturn, 1) := by decide +kernel
theorem dX8_statement_226 : decode cX8_statement 226 = .ok (.aload_n 0, 1) := by decide +kernel
theorem dX8_statement_227 : decode cX8_statement 227 = .ok (.ldc 208, 2) := by decide +kernel
theorem dX8_statement_229 : decode cX8_statement 229 = .ok (.invokevirtual 191, 3) := by decide +kernel
theorem dX8_statement_232 : decode cX8_statement 232 = .ok (.ifCond .eq 34, 3) := by decide +kernel
theorem dX8_statement_235 : decode cX8_statement 235 = .ok (.aload_n 0, 1) := by decide +kernel
theorem dX8_statement_236 : decode cX8_statement 236 = .ok (.iconst 0, 1) := by decide +kernel
theorem dX8_statement_237 : decode cX8_statement 237 = .ok (.bipush 9, 2) := by decide +kernel
theorem dX8_statement_239 : decode cX8_statement 239 = .ok (.invokevirtual 195, 3) := by decide +kernel
theorem dX8_statement_242 : decode cX8_statement 242 = .ok (.istore_n 1, 1) := by decide +kernel
theorem dX8_statement_243 : decode cX8_statement 243 = .ok (.aload_n 0, 1) := by decide +kernel
theorem dX8_statement_244 : decode cX8_statement 244 = .ok (.iload_n 1, 1) := by decide +kernel
theorem dX8_statement_245 : decode cX8_statement 245 = .ok (.ifCond .eq 12, 3) := by decide +kernel
theorem dX8_statement_248 : decode cX8_statement 248 = .ok (.aload_n 0, 1) := by decide +kernel
theorem dX8_statement_249 : decode cX8_statement 249 = .ok (.getfield 68, 3) := by decide +kernel
theorem dX8_statement_252 : decode cX8_statement 252 = .ok (.iconst 0, 1) := by decide +kernel
theorem dX8_statement_253 : decode cX8_statement 253 = .ok (.iaload, 1) := by decide +kernel
theorem dX8_statement_254 : decode cX8_statement 254 = .ok (.goto 7, 3) := by decide +kernel
theorem dX8_statement_257 : decode cX8_statement 257 = .ok (.aload_n 0, 1) := by decide +kernel
theorem dX8_statement_258 : decode cX8_statement 258 = .ok (.getfield 47, 3) := by decide +kernel
theorem dX8_statement_261 : decode cX8_statement 261 = .ok (.putfield 47, 3) := by decide +kernel
theorem dX8_statement_264 : decode cX8_statement 264 = .ok (.iload_n 1, 1) := by decide +kernel
theorem dX8_statement_265 : decode cX8_statement 265 = .ok (.ireturn, 1) := by decide +kernel
theorem dX8_statement_266 : decode cX8_statement 266 = .ok (.aload_n 0, 1) := by decide +kernel
theorem dX8_statement_267 : decode cX8_statement 267 = .ok (.invokevirtual 179, 3) := by decide +kernel
theorem dX8_statement_270 : decode cX8_statement 270 = .ok (.ireturn, 1) := by decide +kernel
theorem dX8_readAll_0 : decode cX8_readAll 0 = .ok (.aload_n 0, 1) := by decide +kernel
theorem dX8_readAll_1 : decode cX8_readAll 1 = .ok (.iconst 1, 1) := by decide +kernel
theorem dX8_readAll_2 : decode cX8_readAll 2 = .ok (.putfield 209, 3) := by decide +kernel
theorem dX8_readAll_5 : decode cX8_readAll 5 = .ok (.aload_n 0, 1) := by decide +kernel
theorem dX8_readAll_6 : decode cX8_readAll 6 = .ok (.iconst 0, 1) := by decide +kernel
theorem dX8_readAll_7 : decode cX8_readAll 7 = .ok (.putfield 147, 3) := by decide +kernel
theorem dX8_readAll_10 : decode cX8_readAll 10 = .ok (.aload_n 0, 1) := by decide +kernel
theorem dX8_readAll_11 : decode cX8_readAll 11 = .ok (.invokevirtual 183, 3) := by decide +kernel
theorem dX8_readAll_14 : decode cX8_readAll 14 = .ok (.aload_n 0, 1) := by decide +kernel
theorem dX8_readAll_15 : decode cX8_readAll 15 = .ok (.invokevirtual 212, 3) := by decide +kernel
theorem dX8_readAll_18 : decode cX8_readAll 18 = .ok (.ifCond .ne 5, 3) := by decide +kernel
theorem dX8_readAll_21 : decode cX8_readAll 21 = .ok (.iconst 0, 1) := by decide +kernel
theorem dX8_readAll_22 : decode cX8_readAll 22 = .ok (.ireturn, 1) := by decide +kernel
theorem dX8_readAll_23 : decode cX8_readAll 23 = .ok (.aload_n 0, 1) := by decide +kernel
theorem dX8_readAll_24 : decode cX8_readAll 24 = .ok (.getfield 156, 3) := by decide +kernel
theorem dX8_readAll_27 : decode cX8_readAll 27 = .ok (.ifCond .eq 42, 3) := by decide +kernel
theorem dX8_readAll_30 : decode cX8_readAll 30 = .ok (.aload_n 0, 1) := by decide +kernel
theorem dX8_readAll_31 : decode cX8_readAll 31 = .ok (.getfield 156, 3) := by decide +kernel
theorem dX8_readAll_34 : decode cX8_readAll 34 = .ok (.iconst 3, 1) := by decide +kernel
theorem dX8_readAll_35 : decode cX8_readAll 35 = .ok (.if_icmp .eq 8, 3) := by decide +kernel
theorem dX8_readAll_38 : decode cX8_readAll 38 = .ok (.aload_n 0, 1) := by decide +kernel
theorem dX8_readAll_39 : decode cX8_readAll 39 = .ok (.invokevirtual 179, 3) := by decide +kernel
theorem dX8_readAll_42 : decode cX8_readAll 42 = .ok (.ireturn, 1) := by decide +kernel
theorem dX8_readAll_43 : decode cX8_readAll 43 = .ok (.aload_n 0, 1) := by decide +kernel
theorem dX8_readAll_44 : decode cX8_readAll 44 = .ok (.invokevirtual 183, 3) := by decide +kernel
theorem dX8_readAll_47 : decode cX8_readAll 47 = .ok (.aload_n 0, 1) := by decide +kernel
theorem dX8_readAll_48 : decode cX8_readAll 48 = .ok (.invokevirtual 212, 3) := by decide +kernel
theorem dX8_readAll_51 : decode cX8_readAll 51 = .ok (.ifCond .ne 5, 3) := by decide +kernel
theorem dX8_readAll_54 : decode cX8_readAll 54 = .ok (.iconst 0, 1) := by decide +kernel
theorem dX8_readAll_55 : decode cX8_readAll 55 = .ok (.ireturn, 1) := by decide +kernel
theorem dX8_readAll_56 : decode cX8_readAll 56 = .ok (.aload_n 0, 1) := by decide +kernel
theorem dX8_readAll_57 : decode cX8_readAll 57 = .ok (.dup, 1) := by decide +kernel
theorem dX8_readAll_58 : decode cX8_readAll 58 = .ok (.getfield 209, 3) := by decide +kernel
theorem dX8_readAll_61 : decode cX8_readAll 61 = .ok (.iconst 1, 1) := by decide +kernel
theorem dX8_readAll_62 : decode cX8_readAll 62 = .ok (.iadd, 1) := by decide +kernel
theorem dX8_readAll_63 : decode cX8_readAll 63 = .ok (.putfield 209, 3) := by decide +kernel
theorem dX8_readAll_66 : decode cX8_readAll 66 = .ok (.goto (-43), 3) := by decide +kernel
theorem dX8_readAll_69 : decode cX8_readAll 69 = .ok (.iconst 1, 1) := by decide +kernel
theorem dX8_readAll_70 : decode cX8_readAll 70 = .ok (.ireturn, 1) := by decide +kernel
theorem dX8_country_0 : decode cX8_country 0 = .ok (.aload_n 0, 1) := by decide +kernel
theorem dX8_country_1 : decode cX8_country 1 = .ok (.getfield 215, 3) := by decide +kernel
theorem dX8_country_4 : decode cX8_country 4 = .ok (.ifnonnull 14, 3) := by decide +kernel
theorem dX8_country_7 : decode cX8_country 7 = .ok (.aload_n 0, 1) := by decide +kernel
theorem dX8_country_8 : decode cX8_country 8 = .ok (.new 8, 3) := by decide +kernel
theorem dX8_country_11 : decode cX8_country 11 = .ok (.dup, 1) := by decide +kernel
theorem dX8_country_12 : decode cX8_country 12 = .ok (.invokespecial 219, 3) := by decide +kernel
theorem dX8_country_15 : decode cX8_country 15 = .ok (.putfield 215, 3) := by decide +kernel
theorem dX8_country_18 : decode cX8_country 18 = .ok (.aload_n 0, 1) := by decide +kernel
theorem dX8_country_19 : decode cX8_country 19 = .ok (.getfield 215, 3) := by decide +kernel
theorem dX8_country_22 : decode cX8_country 22 = .ok (.aload_n 0, 1) := by decide +kernel
theorem dX8_country_23 : decode cX8_country 23 = .ok (.invokevirtual 220, 3) := by decide +kernel
theorem dX8_country_26 : decode cX8_country 26 = .ok (.aload_n 0, 1) := by decide +kernel
theorem dX8_country_27 : decode cX8_country 27 = .ok (.invokevirtual 224, 3) := by decide +kernel
theorem dX8_country_30 : decode cX8_country 30 = .ok (.istore_n 1, 1) := by decide +kernel
theorem dX8_country_31 : decode cX8_country 31 = .ok (.aload_n 0, 1) := by decide +kernel
theorem dX8_country_32 : decode cX8_country 32 = .ok (.iconst 0, 1) := by decide +kernel
theorem dX8_country_33 : decode cX8_country 33 = .ok (.putfield 144, 3) := by decide +kernel
theorem dX8_country_36 : decode cX8_country 36 = .ok (.iload_n 1, 1) := by decide +kernel
theorem dX8_country_37 : decode cX8_country 37 = .ok (.ifCond .ne 26, 3) := by decide +kernel
theorem dX8_country_40 : decode cX8_country 40 = .ok (.aload_n 0, 1) := by decide +kernel
theorem dX8_country_41 : decode cX8_country 41 = .ok (.aload_n 0, 1) := by decide +kernel
theorem dX8_country_42 : decode cX8_country 42 = .ok (.getfield 215, 3) := by decide +kernel
theorem dX8_country_45 : decode cX8_country 45 = .ok (.invokevirtual 220, 3) := by decide +kernel
theorem dX8_country_48 : decode cX8_country 48 = .ok (.aload_n 0, 1) := by decide +kernel
theorem dX8_country_49 : decode cX8_country 49 = .ok (.bipush (-2), 2) := by decide +kernel
theorem dX8_country_51 : decode cX8_country 51 = .ok (.invokevirtual 101, 3) := by decide +kernel
theorem dX8_country_54 : decode cX8_country 54 = .ok (.pop, 1) := by decide +kernel
theorem dX8_country_55 : decode cX8_country 55 = .ok (.bipush (-20), 2) := by decide +kernel
theorem dX8_country_57 : decode cX8_country 57 = .ok (.aload_n 0, 1) := by decide +kernel
theorem dX8_country_58 : decode cX8_country 58 = .ok (.getfield 166, 3) := by decide +kernel
theorem dX8_country_61 : decode cX8_country 61 = .ok (.isub, 1) := by decide +kernel
theorem dX8_country_62 : decode cX8_country 62 = .ok (.ireturn, 1) := by decide +kernel
theorem dX8_country_63 : decode cX8_country 63 = .ok (.aload_n 0, 1) := by decide +kernel
theorem dX8_country_64 : decode cX8_country 64 = .ok (.getfield 209, 3) := by decide +kernel
theorem dX8_country_67 : decode cX8_country 67 = .ok (.ireturn, 1) := by decide +kernel
theorem dX8_held_0 : decode cX8_held 0 = .ok (.iload_n 0, 1) := by decide +kernel
theorem dX8_held_1 : decode cX8_held 1 = .ok (.ifCond .ge 7, 3) := by decide +kernel
theorem dX8_held_4 : decode cX8_held 4 = .ok (.iconst 0, 1) := by decide +kernel
theorem dX8_held_5 : decode cX8_held 5 = .ok (.goto 4, 3) := by decide +kernel
theorem dX8_held_8 : decode cX8_held 8 = .ok (.iload_n 0, 1) := by decide +kernel
theorem dX8_held_9 : decode cX8_held 9 = .ok (.ireturn, 1) := by decide +kernel
theorem dX8_isLoved_0 : decode cX8_isLoved 0 = .ok (.iconst 0, 1) := by decide +kernel
theorem dX8_isLoved_1 : decode cX8_isLoved 1 = .ok (.istore_n 2, 1) := by decide +kernel
theorem dX8_isLoved_2 : decode cX8_isLoved 2 = .ok (.iload_n 2, 1) := by decide +kernel
theorem dX8_isLoved_3 : decode cX8_isLoved 3 = .ok (.aload_n 0, 1) := by decide +kernel
theorem dX8_isLoved_4 : decode cX8_isLoved 4 = .ok (.getfield 88, 3) := by decide +kernel
theorem dX8_isLoved_7 : decode cX8_isLoved 7 = .ok (.if_icmp .ge 34, 3) := by decide +kernel
theorem dX8_isLoved_10 : decode cX8_isLoved 10 = .ok (.iload_n 2, 1) := by decide +kernel
theorem dX8_isLoved_11 : decode cX8_isLoved 11 = .ok (.iload_n 1, 1) := by decide +kernel
theorem dX8_isLoved_12 : decode cX8_isLoved 12 = .ok (.if_icmp .eq 23, 3) := by decide +kernel
theorem dX8_isLoved_15 : decode cX8_isLoved 15 = .ok (.iload_n 2, 1) := by decide +kernel
theorem dX8_isLoved_16 : decode cX8_isLoved 16 = .ok (.aload_n 0, 1) := by decide +kernel
theorem dX8_isLoved_17 : decode cX8_isLoved 17 = .ok (.getfield 71, 3) := by decide +kernel
theorem dX8_isLoved_20 : decode cX8_isLoved 20 = .ok (.if_icmp .eq 15, 3) := by decide +kernel
theorem dX8_isLoved_23 : decode cX8_isLoved 23 = .ok (.aload_n 0, 1) := by decide +kernel
theorem dX8_isLoved_24 : decode cX8_isLoved 24 = .ok (.getfield 50, 3) := by decide +kernel
theorem dX8_isLoved_27 : decode cX8_isLoved 27 = .ok (.iload_n 2, 1) := by decide +kernel
theorem dX8_isLoved_28 : decode cX8_isLoved 28 = .ok (.iaload, 1) := by decide +kernel
theorem dX8_isLoved_29 : decode cX8_isLoved 29 = .ok (.iconst 4, 1) := by decide +kernel
theorem dX8_isLoved_30 : decode cX8_isLoved 30 = .ok (.if_icmp .ne 5, 3) := by decide +kernel
theorem dX8_isLoved_33 : decode cX8_isLoved 33 = .ok (.iconst 1, 1) := by decide +kernel
theorem dX8_isLoved_34 : decode cX8_isLoved 34 = .ok (.ireturn, 1) := by decide +kernel
