theorem dX8_isLoved_35 : decode cX8_isLoved 35 = .ok (.iinc 2 1, 3) := by decide +kernel
theorem dX8_isLoved_38 : decode cX8_isLoved 38 = .ok (.goto (-36), 3) := by decide +kernel
theorem dX8_isLoved_41 : decode cX8_isLoved 41 = .ok (.iconst 0, 1) := by decide +kernel
theorem dX8_isLoved_42 : decode cX8_isLoved 42 = .ok (.ireturn, 1) := by decide +kernel
theorem dX8_cold_0 : decode cX8_cold 0 = .ok (.bipush 40, 2) := by decide +kernel
theorem dX8_cold_2 : decode cX8_cold 2 = .ok (.aload_n 0, 1) := by decide +kernel
theorem dX8_cold_3 : decode cX8_cold 3 = .ok (.getfield 37, 3) := by decide +kernel
theorem dX8_cold_6 : decode cX8_cold 6 = .ok (.isub, 1) := by decide +kernel
theorem dX8_cold_7 : decode cX8_cold 7 = .ok (.aload_n 0, 1) := by decide +kernel
theorem dX8_cold_8 : decode cX8_cold 8 = .ok (.getfield 62, 3) := by decide +kernel
theorem dX8_cold_11 : decode cX8_cold 11 = .ok (.iload_n 1, 1) := by decide +kernel
theorem dX8_cold_12 : decode cX8_cold 12 = .ok (.iaload, 1) := by decide +kernel
theorem dX8_cold_13 : decode cX8_cold 13 = .ok (.isub, 1) := by decide +kernel
theorem dX8_cold_14 : decode cX8_cold 14 = .ok (.invokestatic 227, 3) := by decide +kernel
theorem dX8_cold_17 : decode cX8_cold 17 = .ok (.istore_n 2, 1) := by decide +kernel
theorem dX8_cold_18 : decode cX8_cold 18 = .ok (.aload_n 0, 1) := by decide +kernel
theorem dX8_cold_19 : decode cX8_cold 19 = .ok (.getfield 50, 3) := by decide +kernel
theorem dX8_cold_22 : decode cX8_cold 22 = .ok (.iload_n 1, 1) := by decide +kernel
theorem dX8_cold_23 : decode cX8_cold 23 = .ok (.iaload, 1) := by decide +kernel
theorem dX8_cold_24 : decode cX8_cold 24 = .ok (.tableswitch 119 1 5 #[36, 72, 48, 81, 115], 36) := by decide +kernel
theorem dX8_cold_60 : decode cX8_cold 60 = .ok (.iload_n 2, 1) := by decide +kernel
theorem dX8_cold_61 : decode cX8_cold 61 = .ok (.aload_n 0, 1) := by decide +kernel
theorem dX8_cold_62 : decode cX8_cold 62 = .ok (.getfield 53, 3) := by decide +kernel
theorem dX8_cold_65 : decode cX8_cold 65 = .ok (.iload_n 1, 1) := by decide +kernel
theorem dX8_cold_66 : decode cX8_cold 66 = .ok (.iaload, 1) := by decide +kernel
theorem dX8_cold_67 : decode cX8_cold 67 = .ok (.isub, 1) := by decide +kernel
theorem dX8_cold_68 : decode cX8_cold 68 = .ok (.invokestatic 227, 3) := by decide +kernel
theorem dX8_cold_71 : decode cX8_cold 71 = .ok (.ireturn, 1) := by decide +kernel
theorem dX8_cold_72 : decode cX8_cold 72 = .ok (.iload_n 2, 1) := by decide +kernel
theorem dX8_cold_73 : decode cX8_cold 73 = .ok (.aload_n 0, 1) := by decide +kernel
theorem dX8_cold_74 : decode cX8_cold 74 = .ok (.getfield 53, 3) := by decide +kernel
theorem dX8_cold_77 : decode cX8_cold 77 = .ok (.iload_n 1, 1) := by decide +kernel
theorem dX8_cold_78 : decode cX8_cold 78 = .ok (.iaload, 1) := by decide +kernel
theorem dX8_cold_79 : decode cX8_cold 79 = .ok (.isub, 1) := by decide +kernel
theorem dX8_cold_80 : decode cX8_cold 80 = .ok (.invokestatic 227, 3) := by decide +kernel
theorem dX8_cold_83 : decode cX8_cold 83 = .ok (.iconst 2, 1) := by decide +kernel
theorem dX8_cold_84 : decode cX8_cold 84 = .ok (.aload_n 0, 1) := by decide +kernel
theorem dX8_cold_85 : decode cX8_cold 85 = .ok (.getfield 59, 3) := by decide +kernel
theorem dX8_cold_88 : decode cX8_cold 88 = .ok (.iload_n 1, 1) := by decide +kernel
theorem dX8_cold_89 : decode cX8_cold 89 = .ok (.iaload, 1) := by decide +kernel
theorem dX8_cold_90 : decode cX8_cold 90 = .ok (.imul, 1) := by decide +kernel
theorem dX8_cold_91 : decode cX8_cold 91 = .ok (.isub, 1) := by decide +kernel
theorem dX8_cold_92 : decode cX8_cold 92 = .ok (.invokestatic 227, 3) := by decide +kernel
theorem dX8_cold_95 : decode cX8_cold 95 = .ok (.ireturn, 1) := by decide +kernel
theorem dX8_cold_96 : decode cX8_cold 96 = .ok (.iload_n 2, 1) := by decide +kernel
theorem dX8_cold_97 : decode cX8_cold 97 = .ok (.aload_n 0, 1) := by decide +kernel
theorem dX8_cold_98 : decode cX8_cold 98 = .ok (.getfield 53, 3) := by decide +kernel
theorem dX8_cold_101 : decode cX8_cold 101 = .ok (.iload_n 1, 1) := by decide +kernel
theorem dX8_cold_102 : decode cX8_cold 102 = .ok (.iaload, 1) := by decide +kernel
theorem dX8_cold_103 : decode cX8_cold 103 = .ok (.iadd, 1) := by decide +kernel
theorem dX8_cold_104 : decode cX8_cold 104 = .ok (.ireturn, 1) := by decide +kernel
theorem dX8_cold_105 : decode cX8_cold 105 = .ok (.aload_n 0, 1) := by decide +kernel
theorem dX8_cold_106 : decode cX8_cold 106 = .ok (.iload_n 1, 1) := by decide +kernel
theorem dX8_cold_107 : decode cX8_cold 107 = .ok (.invokevirtual 230, 3) := by decide +kernel
theorem dX8_cold_110 : decode cX8_cold 110 = .ok (.ifCond .eq 20, 3) := by decide +kernel
theorem dX8_cold_113 : decode cX8_cold 113 = .ok (.iload_n 2, 1) := by decide +kernel
theorem dX8_cold_114 : decode cX8_cold 114 = .ok (.aload_n 0, 1) := by decide +kernel
theorem dX8_cold_115 : decode cX8_cold 115 = .ok (.getfield 53, 3) := by decide +kernel
theorem dX8_cold_118 : decode cX8_cold 118 = .ok (.iload_n 1, 1) := by decide +kernel
theorem dX8_cold_119 : decode cX8_cold 119 = .ok (.iaload, 1) := by decide +kernel
theorem dX8_cold_120 : decode cX8_cold 120 = .ok (.iadd, 1) := by decide +kernel
theorem dX8_cold_121 : decode cX8_cold 121 = .ok (.bipush 10, 2) := by decide +kernel
theorem dX8_cold_123 : decode cX8_cold 123 = .ok (.isub, 1) := by decide +kernel
theorem dX8_cold_124 : decode cX8_cold 124 = .ok (.invokestatic 227, 3) := by decide +kernel
theorem dX8_cold_127 : decode cX8_cold 127 = .ok (.goto 11, 3) := by decide +kernel
theorem dX8_cold_130 : decode cX8_cold 130 = .ok (.iload_n 2, 1) := by decide +kernel
theorem dX8_cold_131 : decode cX8_cold 131 = .ok (.aload_n 0, 1) := by decide +kernel
theorem dX8_cold_132 : decode cX8_cold 132 = .ok (.getfield 53, 3) := by decide +kernel
theorem dX8_cold_135 : decode cX8_cold 135 = .ok (.iload_n 1, 1) := by decide +kernel
theorem dX8_cold_136 : decode cX8_cold 136 = .ok (.iaload, 1) := by decide +kernel
theorem dX8_cold_137 : decode cX8_cold 137 = .ok (.iadd, 1) := by decide +kernel
theorem dX8_cold_138 : decode cX8_cold 138 = .ok (.ireturn, 1) := by decide +kernel
theorem dX8_cold_139 : decode cX8_cold 139 = .ok (.iload_n 2, 1) := by decide +kernel
theorem dX8_cold_140 : decode cX8_cold 140 = .ok (.iconst 5, 1) := by decide +kernel
theorem dX8_cold_141 : decode cX8_cold 141 = .ok (.iadd, 1) := by decide +kernel
theorem dX8_cold_142 : decode cX8_cold 142 = .ok (.ireturn, 1) := by decide +kernel
theorem dX8_cold_143 : decode cX8_cold 143 = .ok (.iload_n 2, 1) := by decide +kernel
theorem dX8_cold_144 : decode cX8_cold 144 = .ok (.ireturn, 1) := by decide +kernel
theorem dX8_limit_0 : decode cX8_limit 0 = .ok (.aload_n 0, 1) := by decide +kernel
theorem dX8_limit_1 : decode cX8_limit 1 = .ok (.getfield 50, 3) := by decide +kernel
theorem dX8_limit_4 : decode cX8_limit 4 = .ok (.iload_n 1, 1) := by decide +kernel
theorem dX8_limit_5 : decode cX8_limit 5 = .ok (.iaload, 1) := by decide +kernel
theorem dX8_limit_6 : decode cX8_limit 6 = .ok (.tableswitch 80 1 5 #[34, 65, 46, 74, 77], 34) := by decide +kernel
theorem dX8_limit_40 : decode cX8_limit 40 = .ok (.bipush 10, 2) := by decide +kernel
theorem dX8_limit_42 : decode cX8_limit 42 = .ok (.iconst 2, 1) := by decide +kernel
theorem dX8_limit_43 : decode cX8_limit 43 = .ok (.aload_n 0, 1) := by decide +kernel
theorem dX8_limit_44 : decode cX8_limit 44 = .ok (.getfield 56, 3) := by decide +kernel
theorem dX8_limit_47 : decode cX8_limit 47 = .ok (.iload_n 1, 1) := by decide +kernel
theorem dX8_limit_48 : decode cX8_limit 48 = .ok (.iaload, 1) := by decide +kernel
theorem dX8_limit_49 : decode cX8_limit 49 = .ok (.imul, 1) := by decide +kernel
theorem dX8_limit_50 : decode cX8_limit 50 = .ok (.iadd, 1) := by decide +kernel
theorem dX8_limit_51 : decode cX8_limit 51 = .ok (.ireturn, 1) := by decide +kernel
theorem dX8_limit_52 : decode cX8_limit 52 = .ok (.bipush 10, 2) := by decide +kernel
theorem dX8_limit_54 : decode cX8_limit 54 = .ok (.iconst 2, 1) := by decide +kernel
theorem dX8_limit_55 : decode cX8_limit 55 = .ok (.aload_n 0, 1) := by decide +kernel
theorem dX8_limit_56 : decode cX8_limit 56 = .ok (.getfield 56, 3) := by decide +kernel
theorem dX8_limit_59 : decode cX8_limit 59 = .ok (.iload_n 1, 1) := by decide +kernel
theorem dX8_limit_60 : decode cX8_limit 60 = .ok (.iaload, 1) := by decide +kernel
theorem dX8_limit_61 : decode cX8_limit 61 = .ok (.imul, 1) := by decide +kernel
theorem dX8_limit_62 : decode cX8_limit 62 = .ok (.iadd, 1) := by decide +kernel
theorem dX8_limit_63 : decode cX8_limit 63 = .ok (.aload_n 0, 1) := by decide +kernel
theorem dX8_limit_64 : decode cX8_limit 64 = .ok (.getfield 53, 3) := by decide +kernel
theorem dX8_limit_67 : decode cX8_limit 67 = .ok (.iload_n 1, 1) := by decide +kernel
theorem dX8_limit_68 : decode cX8_limit 68 = .ok (.iaload, 1) := by decide +kernel
theorem dX8_limit_69 : decode cX8_limit 69 = .ok (.iadd, 1) := by decide +kernel
theorem dX8_limit_70 : decode cX8_limit 70 = .ok (.ireturn, 1) := by decide +kernel
theorem dX8_limit_71 : decode cX8_limit 71 = .ok (.iconst 5, 1) := by decide +kernel
theorem dX8_limit_72 : decode cX8_limit 72 = .ok (.aload_n 0, 1) := by decide +kernel
theorem dX8_limit_73 : decode cX8_limit 73 = .ok (.getfield 56, 3) := by decide +kernel
theorem dX8_limit_76 : decode cX8_limit 76 = .ok (.iload_n 1, 1) := by decide +kernel
theorem dX8_limit_77 : decode cX8_limit 77 = .ok (.iaload, 1) := by decide +kernel
theorem dX8_limit_78 : decode cX8_limit 78 = .ok (.iadd, 1) := by decide +kernel
theorem dX8_limit_79 : decode cX8_limit 79 = .ok (.ireturn, 1) := by decide +kernel
theorem dX8_limit_80 : decode cX8_limit 80 = .ok (.bipush 35, 2) := by decide +kernel
theorem dX8_limit_82 : decode cX8_limit 82 = .ok (.ireturn, 1) := by decide +kernel
theorem dX8_limit_83 : decode cX8_limit 83 = .ok (.bipush 10, 2) := by decide +kernel
theorem dX8_limit_85 : decode cX8_limit 85 = .ok (.ireturn, 1) := by decide +kernel
theorem dX8_limit_86 : decode cX8_limit 86 = .ok (.bipush 10, 2) := by decide +kernel
theorem dX8_limit_88 : decode cX8_limit 88 = .ok (.aload_n 0, 1) := by decide +kernel
theorem dX8_limit_89 : decode cX8_limit 89 = .ok (.getfield 56, 3) := by decide +kernel
theorem dX8_limit_92 : decode cX8_limit 92 = .ok (.iload_n 1, 1) := by decide +kernel
theorem dX8_limit_93 : decode cX8_limit 93 = .ok (.iaload, 1) := by decide +kernel
theorem dX8_limit_94 : decode cX8_limit 94 = .ok (.iadd, 1) := by decide +kernel
theorem dX8_limit_95 : decode cX8_limit 95 = .ok (.ireturn, 1) := by decide +kernel
theorem dX8_speaksNow_0 : decode cX8_speaksNow 0 = .ok (.aload_n 0, 1) := by decide +kernel
theorem dX8_speaksNow_1 : decode cX8_speaksNow 1 = .ok (.iload_n 1, 1) := by decide +kernel
theorem dX8_speaksNow_2 : decode cX8_speaksNow 2 = .ok (.invokevirtual 122, 3) := by decide +kernel
theorem dX8_speaksNow_5 : decode cX8_speaksNow 5 = .ok (.aload_n 0, 1) := by decide +kernel
theorem dX8_speaksNow_6 : decode cX8_speaksNow 6 = .ok (.iload_n 1, 1) := by decide +kernel
theorem dX8_speaksNow_7 : decode cX8_speaksNow 7 = .ok (.invokevirtual 233, 3) := by decide +kernel
theorem dX8_speaksNow_10 : decode cX8_speaksNow 10 = .ok (.if_icmp .le 7, 3) := by decide +kernel
theorem dX8_speaksNow_13 : decode cX8_speaksNow 13 = .ok (.iconst 1, 1) := by decide +kernel
theorem dX8_speaksNow_14 : decode cX8_speaksNow 14 = .ok (.goto 4, 3) := by decide +kernel
theorem dX8_speaksNow_17 : decode cX8_speaksNow 17 = .ok (.iconst 0, 1) := by decide +kernel
theorem dX8_speaksNow_18 : decode cX8_speaksNow 18 = .ok (.ireturn, 1) := by decide +kernel
theorem dX8_coldestOf_0 : decode cX8_coldestOf 0 = .ok (.iconst (-1), 1) := by decide +kernel
theorem dX8_coldestOf_1 : decode cX8_coldestOf 1 = .ok (.istore_n 1, 1) := by decide +kernel
theorem dX8_coldestOf_2 : decode cX8_coldestOf 2 = .ok (.iconst 0, 1) := by decide +kernel
theorem dX8_coldestOf_3 : decode cX8_coldestOf 3 = .ok (.istore_n 2, 1) := by decide +kernel
theorem dX8_coldestOf_4 : decode cX8_coldestOf 4 = .ok (.iload_n 2, 1) := by decide +kernel
theorem dX8_coldestOf_5 : decode cX8_coldestOf 5 = .ok (.aload_n 0, 1) := by decide +kernel
theorem dX8_coldestOf_6 : decode cX8_coldestOf 6 = .ok (.getfield 88, 3) := by decide +kernel
theorem dX8_coldestOf_9 : decode cX8_coldestOf 9 = .ok (.if_icmp .ge 41, 3) := by decide +kernel
theorem dX8_coldestOf_12 : decode cX8_coldestOf 12 = .ok (.iload_n 2, 1) := by decide +kernel
theorem dX8_coldestOf_13 : decode cX8_coldestOf 13 = .ok (.aload_n 0, 1) := by decide +kernel
theorem dX8_coldestOf_14 : decode cX8_coldestOf 14 = .ok (.getfield 71, 3) := by decide +kernel
theorem dX8_coldestOf_17 : decode cX8_coldestOf 17 = .ok (.if_icmp .eq 25, 3) := by decide +kernel
theorem dX8_coldestOf_20 : decode cX8_coldestOf 20 = .ok (.iload_n 1, 1) := by decide +kernel
theorem dX8_coldestOf_21 : decode cX8_coldestOf 21 = .ok (.iconst (-1), 1) := by decide +kernel
theorem dX8_coldestOf_22 : decode cX8_coldestOf 22 = .ok (.if_icmp .eq 16, 3) := by decide +kernel
theorem dX8_coldestOf_25 : decode cX8_coldestOf 25 = .ok (.aload_n 0, 1) := by decide +kernel
theorem dX8_coldestOf_26 : decode cX8_coldestOf 26 = .ok (.iload_n 2, 1) := by decide +kernel
theorem dX8_coldestOf_27 : decode cX8_coldestOf 27 = .ok (.invokevirtual 122, 3) := by decide +kernel
theorem dX8_coldestOf_30 : decode cX8_coldestOf 30 = .ok (.aload_n 0, 1) := by decide +kernel
theorem dX8_coldestOf_31 : decode cX8_coldestOf 31 = .ok (.iload_n 1, 1) := by decide +kernel
theorem dX8_coldestOf_32 : decode cX8_coldestOf 32 = .ok (.invokevirtual 122, 3) := by decide +kernel
theorem dX8_coldestOf_35 : decode cX8_coldestOf 35 = .ok (.if_icmp .le 7, 3) := by decide +kernel
theorem dX8_coldestOf_38 : decode cX8_coldestOf 38 = .ok (.iload_n 2, 1) := by decide +kernel
theorem dX8_coldestOf_39 : decode cX8_coldestOf 39 = .ok (.goto 4, 3) := by decide +kernel
theorem dX8_coldestOf_42 : decode cX8_coldestOf 42 = .ok (.iload_n 1, 1) := by decide +kernel
theorem dX8_coldestOf_43 : decode cX8_coldestOf 43 = .ok (.istore_n 1, 1) := by decide +kernel
theorem dX8_coldestOf_44 : decode cX8_coldestOf 44 = .ok (.iinc 2 1, 3) := by decide +kernel
theorem dX8_coldestOf_47 : decode cX8_coldestOf 47 = .ok (.goto (-43), 3) := by decide +kernel
theorem dX8_coldestOf_50 : decode cX8_coldestOf 50 = .ok (.iload_n 1, 1) := by decide +kernel
theorem dX8_coldestOf_51 : decode cX8_coldestOf 51 = .ok (.ireturn, 1) := by decide +kernel
theorem dX8_isSoNow_0 : decode cX8_isSoNow 0 = .ok (.aload_n 0, 1) := by decide +kernel
theorem dX8_isSoNow_1 : decode cX8_isSoNow 1 = .ok (.invokevirtual 236, 3) := by decide +kernel
theorem dX8_isSoNow_4 : decode cX8_isSoNow 4 = .ok (.istore_n 1, 1) := by decide +kernel
theorem dX8_isSoNow_5 : decode cX8_isSoNow 5 = .ok (.iload_n 1, 1) := by decide +kernel
theorem dX8_isSoNow_6 : decode cX8_isSoNow 6 = .ok (.iconst (-1), 1) := by decide +kernel
theorem dX8_isSoNow_7 : decode cX8_isSoNow 7 = .ok (.if_icmp .eq 15, 3) := by decide +kernel
theorem dX8_isSoNow_10 : decode cX8_isSoNow 10 = .ok (.aload_n 0, 1) := by decide +kernel
theorem dX8_isSoNow_11 : decode cX8_isSoNow 11 = .ok (.iload_n 1, 1) := by decide +kernel
theorem dX8_isSoNow_12 : decode cX8_isSoNow 12 = .ok (.invokevirtual 239, 3) := by decide +kernel
theorem dX8_isSoNow_15 : decode cX8_isSoNow 15 = .ok (.ifCond .eq 7, 3) := by decide +kernel
theorem dX8_isSoNow_18 : decode cX8_isSoNow 18 = .ok (.iconst 1, 1) := by decide +kernel
theorem dX8_isSoNow_19 : decode cX8_isSoNow 19 = .ok (.goto 4, 3) := by decide +kernel
theorem dX8_isSoNow_22 : decode cX8_isSoNow 22 = .ok (.iconst 0, 1) := by decide +kernel
theorem dX8_isSoNow_23 : decode cX8_isSoNow 23 = .ok (.ireturn, 1) := by decide +kernel
theorem dX8_personOf_0 : decode cX8_personOf 0 = .ok (.aload_n 0, 1) := by decide +kernel
theorem dX8_personOf_1 : decode cX8_personOf 1 = .ok (.iload_n 1, 1) := by decide +kernel
theorem dX8_personOf_2 : decode cX8_personOf 2 = .ok (.i2l, 1) := by decide +kernel
theorem dX8_personOf_3 : decode cX8_personOf 3 = .ok (.invokevirtual 112, 3) := by decide +kernel
theorem dX8_personOf_6 : decode cX8_personOf 6 = .ok (.ifCond .eq 15, 3) := by decide +kernel
theorem dX8_personOf_9 : decode cX8_personOf 9 = .ok (.iload_n 2, 1) := by decide +kernel
theorem dX8_personOf_10 : decode cX8_personOf 10 = .ok (.i2l, 1) := by decide +kernel
theorem dX8_personOf_11 : decode cX8_personOf 11 = .ok (.lconst 0, 1) := by decide +kernel
theorem dX8_personOf_12 : decode cX8_personOf 12 = .ok (.ldc2_w 242, 3) := by decide +kernel
theorem dX8_personOf_15 : decode cX8_personOf 15 = .ok (.invokestatic 91, 3) := by decide +kernel
theorem dX8_personOf_18 : decode cX8_personOf 18 = .ok (.ifCond .ne 10, 3) := by decide +kernel
theorem dX8_personOf_21 : decode cX8_personOf 21 = .ok (.aload_n 0, 1) := by decide +kernel
theorem dX8_personOf_22 : decode cX8_personOf 22 = .ok (.bipush (-2), 2) := by decide +kernel
theorem dX8_personOf_24 : decode cX8_personOf 24 = .ok (.invokevirtual 101, 3) := by decide +kernel
theorem dX8_personOf_27 : decode cX8_personOf 27 = .ok (.ireturn, 1) := by decide +kernel
theorem dX8_personOf_28 : decode cX8_personOf 28 = .ok (.iload_n 2, 1) := by decide +kernel
theorem dX8_personOf_29 : decode cX8_personOf 29 = .ok (.tableswitch 80 0 5 #[39, 46, 53, 60, 67, 74], 39) := by decide +kernel
theorem dX8_personOf_68 : decode cX8_personOf 68 = .ok (.aload_n 0, 1) := by decide +kernel
theorem dX8_personOf_69 : decode cX8_personOf 69 = .ok (.getfield 50, 3) := by decide +kernel
theorem dX8_personOf_72 : decode cX8_personOf 72 = .ok (.iload_n 1, 1) := by decide +kernel
theorem dX8_personOf_73 : decode cX8_personOf 73 = .ok (.iaload, 1) := by decide +kernel
theorem dX8_personOf_74 : decode cX8_personOf 74 = .ok (.ireturn, 1) := by decide +kernel
theorem dX8_personOf_75 : decode cX8_personOf 75 = .ok (.aload_n 0, 1) := by decide +kernel
theorem dX8_personOf_76 : decode cX8_personOf 76 = .ok (.getfield 53, 3) := by decide +kernel
theorem dX8_personOf_79 : decode cX8_personOf 79 = .ok (.iload_n 1, 1) := by decide +kernel
theorem dX8_personOf_80 : decode cX8_personOf 80 = .ok (.iaload, 1) := by decide +kernel
theorem dX8_personOf_81 : decode cX8_personOf 81 = .ok (.ireturn, 1) := by decide +kernel
theorem dX8_personOf_82 : decode cX8_personOf 82 = .ok (.aload_n 0, 1) := by decide +kernel
theorem dX8_personOf_83 : decode cX8_personOf 83 = .ok (.getfield 56, 3) := by decide +kernel
theorem dX8_personOf_86 : decode cX8_personOf 86 = .ok (.iload_n 1, 1) := by decide +kernel
theorem dX8_personOf_87 : decode cX8_personOf 87 = .ok (.iaload, 1) := by decide +kernel
theorem dX8_personOf_88 : decode cX8_personOf 88 = .ok (.ireturn, 1) := by decide +kernel
theorem dX8_personOf_89 : decode cX8_personOf 89 = .ok (.aload_n 0, 1) := by decide +kernel
theorem dX8_personOf_90 : decode cX8_personOf 90 = .ok (.getfield 59, 3) := by decide +kernel
theorem dX8_personOf_93 : decode cX8_personOf 93 = .ok (.iload_n 1, 1) := by decide +kernel
theorem dX8_personOf_94 : decode cX8_personOf 94 = .ok (.iaload, 1) := by decide +kernel
theorem dX8_personOf_95 : decode cX8_personOf 95 = .ok (.ireturn, 1) := by decide +kernel
theorem dX8_personOf_96 : decode cX8_personOf 96 = .ok (.aload_n 0, 1) := by decide +kernel
theorem dX8_personOf_97 : decode cX8_personOf 97 = .ok (.getfield 62, 3) := by decide +kernel
theorem dX8_personOf_100 : decode cX8_personOf 100 = .ok (.iload_n 1, 1) := by decide +kernel
theorem dX8_personOf_101 : decode cX8_personOf 101 = .ok (.iaload, 1) := by decide +kernel
theorem dX8_personOf_102 : decode cX8_personOf 102 = .ok (.ireturn, 1) := by decide +kernel
theorem dX8_personOf_103 : decode cX8_personOf 103 = .ok (.aload_n 0, 1) := by decide +kernel
theorem dX8_personOf_104 : decode cX8_personOf 104 = .ok (.iload_n 1, 1) := by decide +kernel
theorem dX8_personOf_105 : decode cX8_personOf 105 = .ok (.invokevirtual 122, 3) := by decide +kernel
theorem dX8_personOf_108 : decode cX8_personOf 108 = .ok (.ireturn, 1) := by decide +kernel
theorem dX8_personOf_109 : decode cX8_personOf 109 = .ok (.aload_n 0, 1) := by decide +kernel
theorem dX8_personOf_110 : decode cX8_personOf 110 = .ok (.iload_n 1, 1) := by decide +kernel
theorem dX8_personOf_111 : decode cX8_personOf 111 = .ok (.invokevirtual 233, 3) := by decide +kernel
theorem dX8_personOf_114 : decode cX8_personOf 114 = .ok (.ireturn, 1) := by decide +kernel
theorem dX8_speaks_0 : decode cX8_speaks 0 = .ok (.aload_n 0, 1) := by decide +kernel
theorem dX8_speaks_1 : decode cX8_speaks 1 = .ok (.iload_n 1, 1) := by decide +kernel
theorem dX8_speaks_2 : decode cX8_speaks 2 = .ok (.i2l, 1) := by decide +kernel
theorem dX8_speaks_3 : decode cX8_speaks 3 = .ok (.invokevirtual 112, 3) := by decide +kernel
theorem dX8_speaks_6 : decode cX8_speaks 6 = .ok (.ifCond .eq 19, 3) := by decide +kernel
theorem dX8_speaks_9 : decode cX8_speaks 9 = .ok (.aload_n 0, 1) := by decide +kernel
theorem dX8_speaks_10 : decode cX8_speaks 10 = .ok (.iload_n 1, 1) := by decide +kernel
theorem dX8_speaks_11 : decode cX8_speaks 11 = .ok (.invokevirtual 239, 3) := by decide +kernel
theorem dX8_speaks_14 : decode cX8_speaks 14 = .ok (.ifCond .eq 7, 3) := by decide +kernel
theorem dX8_speaks_17 : decode cX8_speaks 17 = .ok (.iconst 1, 1) := by decide +kernel
theorem dX8_speaks_18 : decode cX8_speaks 18 = .ok (.goto 13, 3) := by decide +kernel
theorem dX8_speaks_21 : decode cX8_speaks 21 = .ok (.iconst 0, 1) := by decide +kernel
theorem dX8_speaks_22 : decode cX8_speaks 22 = .ok (.goto 9, 3) := by decide +kernel
theorem dX8_speaks_25 : decode cX8_speaks 25 = .ok (.aload_n 0, 1) := by decide +kernel
theorem dX8_speaks_26 : decode cX8_speaks 26 = .ok (.bipush (-2), 2) := by decide +kernel
theorem dX8_speaks_28 : decode cX8_speaks 28 = .ok (.invokevirtual 101, 3) := by decide +kernel
theorem dX8_speaks_31 : decode cX8_speaks 31 = .ok (.ireturn, 1) := by decide +kernel
theorem dX8_coldest_0 : decode cX8_coldest 0 = .ok (.aload_n 0, 1) := by decide +kernel
theorem dX8_coldest_1 : decode cX8_coldest 1 = .ok (.invokevirtual 236, 3) := by decide +kernel
theorem dX8_coldest_4 : decode cX8_coldest 4 = .ok (.ireturn, 1) := by decide +kernel
theorem dX8_speaking_0 : decode cX8_speaking 0 = .ok (.iconst 0, 1) := by decide +kernel
theorem dX8_speaking_1 : decode cX8_speaking 1 = .ok (.istore_n 1, 1) := by decide +kernel
theorem dX8_speaking_2 : decode cX8_speaking 2 = .ok (.iconst 0, 1) := by decide +kernel
theorem dX8_speaking_3 : decode cX8_speaking 3 = .ok (.istore_n 2, 1) := by decide +kernel
theorem dX8_speaking_4 : decode cX8_speaking 4 = .ok (.iload_n 2, 1) := by decide +kernel
theorem dX8_speaking_5 : decode cX8_speaking 5 = .ok (.aload_n 0, 1) := by decide +kernel
theorem dX8_speaking_6 : decode cX8_speaking 6 = .ok (.getfield 88, 3) := by decide +kernel
theorem dX8_speaking_9 : decode cX8_speaking 9 = .ok (.if_icmp .ge 27, 3) := by decide +kernel
theorem dX8_speaking_12 : decode cX8_speaking 12 = .ok (.iload_n 1, 1) := by decide +kernel
theorem dX8_speaking_13 : decode cX8_speaking 13 = .ok (.aload_n 0, 1) := by decide +kernel
theorem dX8_speaking_14 : decode cX8_speaking 14 = .ok (.iload_n 2, 1) := by decide +kernel
theorem dX8_speaking_15 : decode cX8_speaking 15 = .ok (.invokevirtual 239, 3) := by decide +kernel
theorem dX8_speaking_18 : decode cX8_speaking 18 = .ok (.ifCond .eq 9, 3) := by decide +kernel
theorem dX8_speaking_21 : decode cX8_speaking 21 = .ok (.iconst 1, 1) := by decide +kernel
theorem dX8_speaking_22 : decode cX8_speaking 22 = .ok (.iload_n 2, 1) := by decide +kernel
theorem dX8_speaking_23 : decode cX8_speaking 23 = .ok (.ishl, 1) := by decide +kernel
theorem dX8_speaking_24 : decode cX8_speaking 24 = .ok (.goto 4, 3) := by decide +kernel
theorem dX8_speaking_27 : decode cX8_speaking 27 = .ok (.iconst 0, 1) := by decide +kernel
theorem dX8_speaking_28 : decode cX8_speaking 28 = .ok (.ior, 1) := by decide +kernel
theorem dX8_speaking_29 : decode cX8_speaking 29 = .ok (.istore_n 1, 1) := by decide +kernel
theorem dX8_speaking_30 : decode cX8_speaking 30 = .ok (.iinc 2 1, 3) := by decide +kernel
theorem dX8_speaking_33 : decode cX8_speaking 33 = .ok (.goto (-29), 3) := by decide +kernel
theorem dX8_speaking_36 : decode cX8_speaking 36 = .ok (.iload_n 1, 1) := by decide +kernel
theorem dX8_speaking_37 : decode cX8_speaking 37 = .ok (.ireturn, 1) := by decide +kernel
theorem dX8_isSo_0 : decode cX8_isSo 0 = .ok (.aload_n 0, 1) := by decide +kernel
theorem dX8_isSo_1 : decode cX8_isSo 1 = .ok (.invokevirtual 244, 3) := by decide +kernel
theorem dX8_isSo_4 : decode cX8_isSo 4 = .ok (.ifCond .eq 7, 3) := by decide +kernel
theorem dX8_isSo_7 : decode cX8_isSo 7 = .ok (.iconst 1, 1) := by decide +kernel
theorem dX8_isSo_8 : decode cX8_isSo 8 = .ok (.goto 4, 3) := by decide +kernel
theorem dX8_isSo_11 : decode cX8_isSo 11 = .ok (.iconst 0, 1) := by decide +kernel
theorem dX8_isSo_12 : decode cX8_isSo 12 = .ok (.ireturn, 1) := by decide +kernel
theorem dX8_rankOf_0 : decode cX8_rankOf 0 = .ok (.iconst 0, 1) := by decide +kernel
theorem dX8_rankOf_1 : decode cX8_rankOf 1 = .ok (.istore_n 2, 1) := by decide +kernel
theorem dX8_rankOf_2 : decode cX8_rankOf 2 = .ok (.iconst 0, 1) := by decide +kernel
theorem dX8_rankOf_3 : decode cX8_rankOf 3 = .ok (.istore_n 3, 1) := by decide +kernel
theorem dX8_rankOf_4 : decode cX8_rankOf 4 = .ok (.iload_n 3, 1) := by decide +kernel
theorem dX8_rankOf_5 : decode cX8_rankOf 5 = .ok (.aload_n 0, 1) := by decide +kernel
theorem dX8_rankOf_6 : decode cX8_rankOf 6 = .ok (.getfield 88, 3) := by decide +kernel
theorem dX8_rankOf_9 : decode cX8_rankOf 9 = .ok (.if_icmp .ge 48, 3) := by decide +kernel
theorem dX8_rankOf_12 : decode cX8_rankOf 12 = .ok (.iload_n 2, 1) := by decide +kernel
theorem dX8_rankOf_13 : decode cX8_rankOf 13 = .ok (.aload_n 0, 1) := by decide +kernel
theorem dX8_rankOf_14 : decode cX8_rankOf 14 = .ok (.iload_n 3, 1) := by decide +kernel
theorem dX8_rankOf_15 : decode cX8_rankOf 15 = .ok (.invokevirtual 122, 3) := by decide +kernel
theorem dX8_rankOf_18 : decode cX8_rankOf 18 = .ok (.aload_n 0, 1) := by decide +kernel
theorem dX8_rankOf_19 : decode cX8_rankOf 19 = .ok (.iload_n 1, 1) := by decide +kernel
theorem dX8_rankOf_20 : decode cX8_rankOf 20 = .ok (.invokevirtual 122, 3) := by decide +kernel
theorem dX8_rankOf_23 : decode cX8_rankOf 23 = .ok (.if_icmp .gt 21, 3) := by decide +kernel
theorem dX8_rankOf_26 : decode cX8_rankOf 26 = .ok (.aload_n 0, 1) := by decide +kernel
theorem dX8_rankOf_27 : decode cX8_rankOf 27 = .ok (.iload_n 3, 1) := by decide +kernel
theorem dX8_rankOf_28 : decode cX8_rankOf 28 = .ok (.invokevirtual 122, 3) := by decide +kernel
theorem dX8_rankOf_31 : decode cX8_rankOf 31 = .ok (.aload_n 0, 1) := by decide +kernel
theorem dX8_rankOf_32 : decode cX8_rankOf 32 = .ok (.iload_n 1, 1) := by decide +kernel
theorem dX8_rankOf_33 : decode cX8_rankOf 33 = .ok (.invokevirtual 122, 3) := by decide +kernel
theorem dX8_rankOf_36 : decode cX8_rankOf 36 = .ok (.if_icmp .ne 12, 3) := by decide +kernel
theorem dX8_rankOf_39 : decode cX8_rankOf 39 = .ok (.iload_n 3, 1) := by decide +kernel
theorem dX8_rankOf_40 : decode cX8_rankOf 40 = .ok (.iload_n 1, 1) := by decide +kernel
theorem dX8_rankOf_41 : decode cX8_rankOf 41 = .ok (.if_icmp .ge 7, 3) := by decide +kernel
theorem dX8_rankOf_44 : decode cX8_rankOf 44 = .ok (.iconst 1, 1) := by decide +kernel
theorem dX8_rankOf_45 : decode cX8_rankOf 45 = .ok (.goto 4, 3) := by decide +kernel
theorem dX8_rankOf_48 : decode cX8_rankOf 48 = .ok (.iconst 0, 1) := by decide +kernel
theorem dX8_rankOf_49 : decode cX8_rankOf 49 = .ok (.iadd, 1) := by decide +kernel
theorem dX8_rankOf_50 : decode cX8_rankOf 50 = .ok (.istore_n 2, 1) := by decide +kernel
theorem dX8_rankOf_51 : decode cX8_rankOf 51 = .ok (.iinc 3 1, 3) := by decide +kernel
theorem dX8_rankOf_54 : decode cX8_rankOf 54 = .ok (.goto (-50), 3) := by decide +kernel
theorem dX8_rankOf_57 : decode cX8_rankOf 57 = .ok (.iload_n 2, 1) := by decide +kernel
theorem dX8_rankOf_58 : decode cX8_rankOf 58 = .ok (.ireturn, 1) := by decide +kernel
theorem dX8_ranked_0 : decode cX8_ranked 0 = .ok (.iconst 0, 1) := by decide +kernel
theorem dX8_ranked_1 : decode cX8_ranked 1 = .ok (.istore_n 2, 1) := by decide +kernel
theorem dX8_ranked_2 : decode cX8_ranked 2 = .ok (.aload_n 0, 1) := by decide +kernel
theorem dX8_ranked_3 : decode cX8_ranked 3 = .ok (.iload_n 2, 1) := by decide +kernel
theorem dX8_ranked_4 : decode cX8_ranked 4 = .ok (.invokevirtual 247, 3) := by decide +kernel
theorem dX8_ranked_7 : decode cX8_ranked 7 = .ok (.iload_n 1, 1) := by decide +kernel
theorem dX8_ranked_8 : decode cX8_ranked 8 = .ok (.if_icmp .eq 9, 3) := by decide +kernel
theorem dX8_ranked_11 : decode cX8_ranked 11 = .ok (.iinc 2 1, 3) := by decide +kernel
theorem dX8_ranked_14 : decode cX8_ranked 14 = .ok (.goto (-12), 3) := by decide +kernel
theorem dX8_ranked_17 : decode cX8_ranked 17 = .ok (.iload_n 2, 1) := by decide +kernel
theorem dX8_ranked_18 : decode cX8_ranked 18 = .ok (.ireturn, 1) := by decide +kernel
theorem dX8_rank_0 : decode cX8_rank 0 = .ok (.aload_n 0, 1) := by decide +kernel
theorem dX8_rank_1 : decode cX8_rank 1 = .ok (.iload_n 1, 1) := by decide +kernel
theorem dX8_rank_2 : decode cX8_rank 2 = .ok (.i2l, 1) := by decide +kernel
theorem dX8_rank_3 : decode cX8_rank 3 = .ok (.invokevirtual 112, 3) := by decide +kernel
theorem dX8_rank_6 : decode cX8_rank 6 = .ok (.ifCond .eq 11, 3) := by decide +kernel
theorem dX8_rank_9 : decode cX8_rank 9 = .ok (.aload_n 0, 1) := by decide +kernel
theorem dX8_rank_10 : decode cX8_rank 10 = .ok (.iload_n 1, 1) := by decide +kernel
theorem dX8_rank_11 : decode cX8_rank 11 = .ok (.invokevirtual 250, 3) := by decide +kernel
theorem dX8_rank_14 : decode cX8_rank 14 = .ok (.goto 9, 3) := by decide +kernel
theorem dX8_rank_17 : decode cX8_rank 17 = .ok (.aload_n 0, 1) := by decide +kernel
theorem dX8_rank_18 : decode cX8_rank 18 = .ok (.bipush (-2), 2) := by decide +kernel
theorem dX8_rank_20 : decode cX8_rank 20 = .ok (.invokevirtual 101, 3) := by decide +kernel
theorem dX8_rank_23 : decode cX8_rank 23 = .ok (.ireturn, 1) := by decide +kernel
theorem dX8_shivering_0 : decode cX8_shivering 0 = .ok (.iconst 0, 1) := by decide +kernel
theorem dX8_shivering_1 : decode cX8_shivering 1 = .ok (.istore_n 1, 1) := by decide +kernel
theorem dX8_shivering_2 : decode cX8_shivering 2 = .ok (.iconst 0, 1) := by decide +kernel
theorem dX8_shivering_3 : decode cX8_shivering 3 = .ok (.istore_n 2, 1) := by decide +kernel
theorem dX8_shivering_4 : decode cX8_shivering 4 = .ok (.iload_n 2, 1) := by decide +kernel
theorem dX8_shivering_5 : decode cX8_shivering 5 = .ok (.aload_n 0, 1) := by decide +kernel
theorem dX8_shivering_6 : decode cX8_shivering 6 = .ok (.getfield 88, 3) := by decide +kernel
theorem dX8_shivering_9 : decode cX8_shivering 9 = .ok (.if_icmp .ge 17, 3) := by decide +kernel
theorem dX8_shivering_12 : decode cX8_shivering 12 = .ok (.iload_n 1, 1) := by decide +kernel
theorem dX8_shivering_13 : decode cX8_shivering 13 = .ok (.aload_n 0, 1) := by decide +kernel
theorem dX8_shivering_14 : decode cX8_shivering 14 = .ok (.iload_n 2, 1) := by decide +kernel
theorem dX8_shivering_15 : decode cX8_shivering 15 = .ok (.invokevirtual 122, 3) := by decide +kernel
theorem dX8_shivering_18 : decode cX8_shivering 18 = .ok (.iadd, 1) := by decide +kernel
theorem dX8_shivering_19 : decode cX8_shivering 19 = .ok (.istore_n 1, 1) := by decide +kernel
theorem dX8_shivering_20 : decode cX8_shivering 20 = .ok (.iinc 2 1, 3) := by decide +kernel
theorem dX8_shivering_23 : decode cX8_shivering 23 = .ok (.goto (-19), 3) := by decide +kernel
theorem dX8_shivering_26 : decode cX8_shivering 26 = .ok (.iload_n 1, 1) := by decide +kernel
theorem dX8_shivering_27 : decode cX8_shivering 27 = .ok (.ireturn, 1) := by decide +kernel
theorem dX8_lead_0 : decode cX8_lead 0 = .ok (.aload_n 0, 1) := by decide +kernel
theorem dX8_lead_1 : decode cX8_lead 1 = .ok (.getfield 88, 3) := by decide +kernel
theorem dX8_lead_4 : decode cX8_lead 4 = .ok (.iconst 2, 1) := by decide +kernel
theorem dX8_lead_5 : decode cX8_lead 5 = .ok (.if_icmp .ge 7, 3) := by decide +kernel
theorem dX8_lead_8 : decode cX8_lead 8 = .ok (.iconst 0, 1) := by decide +kernel
theorem dX8_lead_9 : decode cX8_lead 9 = .ok (.goto 22, 3) := by decide +kernel
theorem dX8_lead_12 : decode cX8_lead 12 = .ok (.aload_n 0, 1) := by decide +kernel
theorem dX8_lead_13 : decode cX8_lead 13 = .ok (.aload_n 0, 1) := by decide +kernel
theorem dX8_lead_14 : decode cX8_lead 14 = .ok (.iconst 0, 1) := by decide +kernel
theorem dX8_lead_15 : decode cX8_lead 15 = .ok (.invokevirtual 250, 3) := by decide +kernel
theorem dX8_lead_18 : decode cX8_lead 18 = .ok (.invokevirtual 122, 3) := by decide +kernel
theorem dX8_lead_21 : decode cX8_lead 21 = .ok (.aload_n 0, 1) := by decide +kernel
theorem dX8_lead_22 : decode cX8_lead 22 = .ok (.aload_n 0, 1) := by decide +kernel
theorem dX8_lead_23 : decode cX8_lead 23 = .ok (.iconst 1, 1) := by decide +kernel
theorem dX8_lead_24 : decode cX8_lead 24 = .ok (.invokevirtual 250, 3) := by decide +kernel
theorem dX8_lead_27 : decode cX8_lead 27 = .ok (.invokevirtual 122, 3) := by decide +kernel
theorem dX8_lead_30 : decode cX8_lead 30 = .ok (.isub, 1) := by decide +kernel
theorem dX8_lead_31 : decode cX8_lead 31 = .ok (.ireturn, 1) := by decide +kernel
theorem dX8_second_0 : decode cX8_second 0 = .ok (.aload_n 0, 1) := by decide +kernel
theorem dX8_second_1 : decode cX8_second 1 = .ok (.iload_n 1, 1) := by decide +kernel
theorem dX8_second_2 : decode cX8_second 2 = .ok (.i2l, 1) := by decide +kernel
theorem dX8_second_3 : decode cX8_second 3 = .ok (.invokevirtual 112, 3) := by decide +kernel
theorem dX8_second_6 : decode cX8_second 6 = .ok (.ifCond .ne 10, 3) := by decide +kernel
theorem dX8_second_9 : decode cX8_second 9 = .ok (.aload_n 0, 1) := by decide +kernel
theorem dX8_second_10 : decode cX8_second 10 = .ok (.bipush (-2), 2) := by decide +kernel
theorem dX8_second_12 : decode cX8_second 12 = .ok (.invokevirtual 101, 3) := by decide +kernel
theorem dX8_second_15 : decode cX8_second 15 = .ok (.ireturn, 1) := by decide +kernel
theorem dX8_second_16 : decode cX8_second 16 = .ok (.aload_n 0, 1) := by decide +kernel
theorem dX8_second_17 : decode cX8_second 17 = .ok (.iload_n 1, 1) := by decide +kernel
theorem dX8_second_18 : decode cX8_second 18 = .ok (.putfield 71, 3) := by decide +kernel
theorem dX8_second_21 : decode cX8_second 21 = .ok (.aload_n 0, 1) := by decide +kernel
theorem dX8_second_22 : decode cX8_second 22 = .ok (.invokevirtual 236, 3) := by decide +kernel
theorem dX8_second_25 : decode cX8_second 25 = .ok (.istore_n 2, 1) := by decide +kernel
theorem dX8_second_26 : decode cX8_second 26 = .ok (.aload_n 0, 1) := by decide +kernel
theorem dX8_second_27 : decode cX8_second 27 = .ok (.iconst (-1), 1) := by decide +kernel
theorem dX8_second_28 : decode cX8_second 28 = .ok (.putfield 71, 3) := by decide +kernel
theorem dX8_second_31 : decode cX8_second 31 = .ok (.iload_n 2, 1) := by decide +kernel
theorem dX8_second_32 : decode cX8_second 32 = .ok (.ireturn, 1) := by decide +kernel
theorem dX8_ofKind_0 : decode cX8_ofKind 0 = .ok (.iload_n 1, 1) := by decide +kernel
theorem dX8_ofKind_1 : decode cX8_ofKind 1 = .ok (.i2l, 1) := by decide +kernel
theorem dX8_ofKind_2 : decode cX8_ofKind 2 = .ok (.lconst 0, 1) := by decide +kernel
theorem dX8_ofKind_3 : decode cX8_ofKind 3 = .ok (.ldc2_w 116, 3) := by decide +kernel
theorem dX8_ofKind_6 : decode cX8_ofKind 6 = .ok (.invokestatic 91, 3) := by decide +kernel
theorem dX8_ofKind_9 : decode cX8_ofKind 9 = .ok (.ifCond .ne 10, 3) := by decide +kernel
theorem dX8_ofKind_12 : decode cX8_ofKind 12 = .ok (.aload_n 0, 1) := by decide +kernel
theorem dX8_ofKind_13 : decode cX8_ofKind 13 = .ok (.bipush (-2), 2) := by decide +kernel
theorem dX8_ofKind_15 : decode cX8_ofKind 15 = .ok (.invokevirtual 101, 3) := by decide +kernel
theorem dX8_ofKind_18 : decode cX8_ofKind 18 = .ok (.ireturn, 1) := by decide +kernel
theorem dX8_ofKind_19 : decode cX8_ofKind 19 = .ok (.iconst 0, 1) := by decide +kernel
theorem dX8_ofKind_20 : decode cX8_ofKind 20 = .ok (.istore_n 2, 1) := by decide +kernel
theorem dX8_ofKind_21 : decode cX8_ofKind 21 = .ok (.iconst 0, 1) := by decide +kernel
theorem dX8_ofKind_22 : decode cX8_ofKind 22 = .ok (.istore_n 3, 1) := by decide +kernel
theorem dX8_ofKind_23 : decode cX8_ofKind 23 = .ok (.iload_n 3, 1) := by decide +kernel
theorem dX8_ofKind_24 : decode cX8_ofKind 24 = .ok (.aload_n 0, 1) := by decide +kernel
theorem dX8_ofKind_25 : decode cX8_ofKind 25 = .ok (.getfield 88, 3) := by decide +kernel
theorem dX8_ofKind_28 : decode cX8_ofKind 28 = .ok (.if_icmp .ge 27, 3) := by decide +kernel
theorem dX8_ofKind_31 : decode cX8_ofKind 31 = .ok (.iload_n 2, 1) := by decide +kernel
theorem dX8_ofKind_32 : decode cX8_ofKind 32 = .ok (.aload_n 0, 1) := by decide +kernel
theorem dX8_ofKind_33 : decode cX8_ofKind 33 = .ok (.getfield 50, 3) := by decide +kernel
theorem dX8_ofKind_36 : decode cX8_ofKind 36 = .ok (.iload_n 3, 1) := by decide +kernel
theorem dX8_ofKind_37 : decode cX8_ofKind 37 = .ok (.iaload, 1) := by decide +kernel
theorem dX8_ofKind_38 : decode cX8_ofKind 38 = .ok (.iload_n 1, 1) := by decide +kernel
theorem dX8_ofKind_39 : decode cX8_ofKind 39 = .ok (.if_icmp .ne 7, 3) := by decide +kernel
theorem dX8_ofKind_42 : decode cX8_ofKind 42 = .ok (.iconst 1, 1) := by decide +kernel
theorem dX8_ofKind_43 : decode cX8_ofKind 43 = .ok (.goto 4, 3) := by decide +kernel
theorem dX8_ofKind_46 : decode cX8_ofKind 46 = .ok (.iconst 0, 1) := by decide +kernel
theorem dX8_ofKind_47 : decode cX8_ofKind 47 = .ok (.iadd, 1) := by decide +kernel
theorem dX8_ofKind_48 : decode cX8_ofKind 48 = .ok (.istore_n 2, 1) := by decide +kernel
theorem dX8_ofKind_49 : decode cX8_ofKind 49 = .ok (.iinc 3 1, 3) := by decide +kernel
theorem dX8_ofKind_52 : decode cX8_ofKind 52 = .ok (.goto (-29), 3) := by decide +kernel
theorem dX8_ofKind_55 : decode cX8_ofKind 55 = .ok (.iload_n 2, 1) := by decide +kernel
theorem dX8_ofKind_56 : decode cX8_ofKind 56 = .ok (.ireturn, 1) := by decide +kernel
theorem dX8_keeps_0 : decode cX8_keeps 0 = .ok (.aload_n 0, 1) := by decide +kernel
theorem dX8_keeps_1 : decode cX8_keeps 1 = .ok (.aload_n 0, 1) := by decide +kernel
theorem dX8_keeps_2 : decode cX8_keeps 2 = .ok (.getfield 37, 3) := by decide +kernel
theorem dX8_keeps_5 : decode cX8_keeps 5 = .ok (.putfield 253, 3) := by decide +kernel
theorem dX8_keeps_8 : decode cX8_keeps 8 = .ok (.aload_n 0, 1) := by decide +kernel
theorem dX8_keeps_9 : decode cX8_keeps 9 = .ok (.aload_n 0, 1) := by decide +kernel
theorem dX8_keeps_10 : decode cX8_keeps 10 = .ok (.getfield 41, 3) := by decide +kernel
theorem dX8_keeps_13 : decode cX8_keeps 13 = .ok (.putfield 256, 3) := by decide +kernel
theorem dX8_keeps_16 : decode cX8_keeps 16 = .ok (.iconst 0, 1) := by decide +kernel
theorem dX8_keeps_17 : decode cX8_keeps 17 = .ok (.istore_n 1, 1) := by decide +kernel
theorem dX8_keeps_18 : decode cX8_keeps 18 = .ok (.iload_n 1, 1) := by decide +kernel
theorem dX8_keeps_19 : decode cX8_keeps 19 = .ok (.aload_n 0, 1) := by decide +kernel
theorem dX8_keeps_20 : decode cX8_keeps 20 = .ok (.getfield 88, 3) := by decide +kernel
theorem dX8_keeps_23 : decode cX8_keeps 23 = .ok (.if_icmp .ge 21, 3) := by decide +kernel
theorem dX8_keeps_26 : decode cX8_keeps 26 = .ok (.aload_n 0, 1) := by decide +kernel
theorem dX8_keeps_27 : decode cX8_keeps 27 = .ok (.getfield 74, 3) := by decide +kernel
theorem dX8_keeps_30 : decode cX8_keeps 30 = .ok (.iload_n 1, 1) := by decide +kernel
theorem dX8_keeps_31 : decode cX8_keeps 31 = .ok (.aload_n 0, 1) := by decide +kernel
theorem dX8_keeps_32 : decode cX8_keeps 32 = .ok (.getfield 62, 3) := by decide +kernel
theorem dX8_keeps_35 : decode cX8_keeps 35 = .ok (.iload_n 1, 1) := by decide +kernel
theorem dX8_keeps_36 : decode cX8_keeps 36 = .ok (.iaload, 1) := by decide +kernel
theorem dX8_keeps_37 : decode cX8_keeps 37 = .ok (.iastore, 1) := by decide +kernel
theorem dX8_keeps_38 : decode cX8_keeps 38 = .ok (.iinc 1 1, 3) := by decide +kernel
theorem dX8_keeps_41 : decode cX8_keeps 41 = .ok (.goto (-23), 3) := by decide +kernel
theorem dX8_keeps_44 : decode cX8_keeps 44 = .ok (.return_, 1) := by decide +kernel
theorem dX8_goesBack_0 : decode cX8_goesBack 0 = .ok (.aload_n 0, 1) := by decide +kernel
theorem dX8_goesBack_1 : decode cX8_goesBack 1 = .ok (.aload_n 0, 1) := by decide +kernel
theorem dX8_goesBack_2 : decode cX8_goesBack 2 = .ok (.getfield 253, 3) := by decide +kernel
theorem dX8_goesBack_5 : decode cX8_goesBack 5 = .ok (.putfield 37, 3) := by decide +kernel
theorem dX8_goesBack_8 : decode cX8_goesBack 8 = .ok (.aload_n 0, 1) := by decide +kernel
theorem dX8_goesBack_9 : decode cX8_goesBack 9 = .ok (.aload_n 0, 1) := by decide +kernel
theorem dX8_goesBack_10 : decode cX8_goesBack 10 = .ok (.getfield 256, 3) := by decide +kernel
theorem dX8_goesBack_13 : decode cX8_goesBack 13 = .ok (.putfield 41, 3) := by decide +kernel
theorem dX8_goesBack_16 : decode cX8_goesBack 16 = .ok (.iconst 0, 1) := by decide +kernel
theorem dX8_goesBack_17 : decode cX8_goesBack 17 = .ok (.istore_n 1, 1) := by decide +kernel
theorem dX8_goesBack_18 : decode cX8_goesBack 18 = .ok (.iload_n 1, 1) := by decide +kernel
theorem dX8_goesBack_19 : decode cX8_goesBack 19 = .ok (.aload_n 0, 1) := by decide +kernel
theorem dX8_goesBack_20 : decode cX8_goesBack 20 = .ok (.getfield 88, 3) := by decide +kernel
theorem dX8_goesBack_23 : decode cX8_goesBack 23 = .ok (.if_icmp .ge 21, 3) := by decide +kernel
theorem dX8_goesBack_26 : decode cX8_goesBack 26 = .ok (.aload_n 0, 1) := by decide +kernel
theorem dX8_goesBack_27 : decode cX8_goesBack 27 = .ok (.getfield 62, 3) := by decide +kernel
theorem dX8_goesBack_30 : decode cX8_goesBack 30 = .ok (.iload_n 1, 1) := by decide +kernel
theorem dX8_goesBack_31 : decode cX8_goesBack 31 = .ok (.aload_n 0, 1) := by decide +kernel
theorem dX8_goesBack_32 : decode cX8_goesBack 32 = .ok (.getfield 74, 3) := by decide +kernel
theorem dX8_goesBack_35 : decode cX8_goesBack 35 = .ok (.iload_n 1, 1) := by decide +kernel
theorem dX8_goesBack_36 : decode cX8_goesBack 36 = .ok (.iaload, 1) := by decide +kernel
theorem dX8_goesBack_37 : decode cX8_goesBack 37 = .ok (.iastore, 1) := by decide +kernel
theorem dX8_goesBack_38 : decode cX8_goesBack 38 = .ok (.iinc 1 1, 3) := by decide +kernel
theorem dX8_goesBack_41 : decode cX8_goesBack 41 = .ok (.goto (-23), 3) := by decide +kernel
theorem dX8_goesBack_44 : decode cX8_goesBack 44 = .ok (.return_, 1) := by decide +kernel
theorem dX8_cools_0 : decode cX8_cools 0 = .ok (.aload_n 0, 1) := by decide +kernel
theorem dX8_cools_1 : decode cX8_cools 1 = .ok (.aload_n 0, 1) := by decide +kernel
theorem dX8_cools_2 : decode cX8_cools 2 = .ok (.getfield 37, 3) := by decide +kernel
theorem dX8_cools_5 : decode cX8_cools 5 = .ok (.aload_n 0, 1) := by decide +kernel
theorem dX8_cools_6 : decode cX8_cools 6 = .ok (.getfield 41, 3) := by decide +kernel
theorem dX8_cools_9 : decode cX8_cools 9 = .ok (.isub, 1) := by decide +kernel
theorem dX8_cools_10 : decode cX8_cools 10 = .ok (.invokestatic 227, 3) := by decide +kernel
theorem dX8_cools_13 : decode cX8_cools 13 = .ok (.putfield 37, 3) := by decide +kernel
theorem dX8_cools_16 : decode cX8_cools 16 = .ok (.iconst 0, 1) := by decide +kernel
theorem dX8_cools_17 : decode cX8_cools 17 = .ok (.istore_n 1, 1) := by decide +kernel
theorem dX8_cools_18 : decode cX8_cools 18 = .ok (.iload_n 1, 1) := by decide +kernel
theorem dX8_cools_19 : decode cX8_cools 19 = .ok (.aload_n 0, 1) := by decide +kernel
theorem dX8_cools_20 : decode cX8_cools 20 = .ok (.getfield 88, 3) := by decide +kernel
theorem dX8_cools_23 : decode cX8_cools 23 = .ok (.if_icmp .ge 26, 3) := by decide +kernel
theorem dX8_cools_26 : decode cX8_cools 26 = .ok (.aload_n 0, 1) := by decide +kernel
theorem dX8_cools_27 : decode cX8_cools 27 = .ok (.getfield 62, 3) := by decide +kernel
theorem dX8_cools_30 : decode cX8_cools 30 = .ok (.iload_n 1, 1) := by decide +kernel
theorem dX8_cools_31 : decode cX8_cools 31 = .ok (.aload_n 0, 1) := by decide +kernel
theorem dX8_cools_32 : decode cX8_cools 32 = .ok (.getfield 62, 3) := by decide +kernel
theorem dX8_cools_35 : decode cX8_cools 35 = .ok (.iload_n 1, 1) := by decide +kernel
theorem dX8_cools_36 : decode cX8_cools 36 = .ok (.iaload, 1) := by decide +kernel
theorem dX8_cools_37 : decode cX8_cools 37 = .ok (.iconst 1, 1) := by decide +kernel
theorem dX8_cools_38 : decode cX8_cools 38 = .ok (.isub, 1) := by decide +kernel
theorem dX8_cools_39 : decode cX8_cools 39 = .ok (.invokestatic 227, 3) := by decide +kernel
theorem dX8_cools_42 : decode cX8_cools 42 = .ok (.iastore, 1) := by decide +kernel
theorem dX8_cools_43 : decode cX8_cools 43 = .ok (.iinc 1 1, 3) := by decide +kernel
theorem dX8_cools_46 : decode cX8_cools 46 = .ok (.goto (-28), 3) := by decide +kernel
theorem dX8_cools_49 : decode cX8_cools 49 = .ok (.return_, 1) := by decide +kernel
theorem dX8_whenSo_0 : decode cX8_whenSo 0 = .ok (.iconst 0, 1) := by decide +kernel
theorem dX8_whenSo_1 : decode cX8_whenSo 1 = .ok (.istore_n 1, 1) := by decide +kernel
theorem dX8_whenSo_2 : decode cX8_whenSo 2 = .ok (.iload_n 1, 1) := by decide +kernel
theorem dX8_whenSo_3 : decode cX8_whenSo 3 = .ok (.bipush 60, 2) := by decide +kernel
theorem dX8_whenSo_5 : decode cX8_whenSo 5 = .ok (.if_icmp .gt 20, 3) := by decide +kernel
theorem dX8_whenSo_8 : decode cX8_whenSo 8 = .ok (.aload_n 0, 1) := by decide +kernel
theorem dX8_whenSo_9 : decode cX8_whenSo 9 = .ok (.invokevirtual 244, 3) := by decide +kernel
theorem dX8_whenSo_12 : decode cX8_whenSo 12 = .ok (.ifCond .ne 13, 3) := by decide +kernel
theorem dX8_whenSo_15 : decode cX8_whenSo 15 = .ok (.aload_n 0, 1) := by decide +kernel
theorem dX8_whenSo_16 : decode cX8_whenSo 16 = .ok (.invokevirtual 259, 3) := by decide +kernel
theorem dX8_whenSo_19 : decode cX8_whenSo 19 = .ok (.iinc 1 1, 3) := by decide +kernel
theorem dX8_whenSo_22 : decode cX8_whenSo 22 = .ok (.goto (-20), 3) := by decide +kernel
theorem dX8_whenSo_25 : decode cX8_whenSo 25 = .ok (.aload_n 0, 1) := by decide +kernel
theorem dX8_whenSo_26 : decode cX8_whenSo 26 = .ok (.iload_n 1, 1) := by decide +kernel
theorem dX8_whenSo_27 : decode cX8_whenSo 27 = .ok (.bipush 60, 2) := by decide +kernel
theorem dX8_whenSo_29 : decode cX8_whenSo 29 = .ok (.if_icmp .gt 10, 3) := by decide +kernel
theorem dX8_whenSo_32 : decode cX8_whenSo 32 = .ok (.aload_n 0, 1) := by decide +kernel
theorem dX8_whenSo_33 : decode cX8_whenSo 33 = .ok (.invokevirtual 236, 3) := by decide +kernel
theorem dX8_whenSo_36 : decode cX8_whenSo 36 = .ok (.goto 4, 3) := by decide +kernel
theorem dX8_whenSo_39 : decode cX8_whenSo 39 = .ok (.iconst (-1), 1) := by decide +kernel
theorem dX8_whenSo_40 : decode cX8_whenSo 40 = .ok (.putfield 262, 3) := by decide +kernel
theorem dX8_whenSo_43 : decode cX8_whenSo 43 = .ok (.iload_n 1, 1) := by decide +kernel
theorem dX8_whenSo_44 : decode cX8_whenSo 44 = .ok (.ireturn, 1) := by decide +kernel
theorem dX8_when_0 : decode cX8_when 0 = .ok (.iload_n 1, 1) := by decide +kernel
theorem dX8_when_1 : decode cX8_when 1 = .ok (.i2l, 1) := by decide +kernel
theorem dX8_when_2 : decode cX8_when 2 = .ok (.lconst 0, 1) := by decide +kernel
theorem dX8_when_3 : decode cX8_when 3 = .ok (.lconst 1, 1) := by decide +kernel
theorem dX8_when_4 : decode cX8_when 4 = .ok (.invokestatic 91, 3) := by decide +kernel
theorem dX8_when_7 : decode cX8_when 7 = .ok (.ifCond .ne 10, 3) := by decide +kernel
theorem dX8_when_10 : decode cX8_when 10 = .ok (.aload_n 0, 1) := by decide +kernel
theorem dX8_when_11 : decode cX8_when 11 = .ok (.bipush (-2), 2) := by decide +kernel
theorem dX8_when_13 : decode cX8_when 13 = .ok (.invokevirtual 101, 3) := by decide +kernel
theorem dX8_when_16 : decode cX8_when 16 = .ok (.ireturn, 1) := by decide +kernel
theorem dX8_when_17 : decode cX8_when 17 = .ok (.aload_n 0, 1) := by decide +kernel
theorem dX8_when_18 : decode cX8_when 18 = .ok (.invokevirtual 265, 3) := by decide +kernel
theorem dX8_when_21 : decode cX8_when 21 = .ok (.aload_n 0, 1) := by decide +kernel
theorem dX8_when_22 : decode cX8_when 22 = .ok (.invokevirtual 268, 3) := by decide +kernel
theorem dX8_when_25 : decode cX8_when 25 = .ok (.istore_n 2, 1) := by decide +kernel
theorem dX8_when_26 : decode cX8_when 26 = .ok (.aload_n 0, 1) := by decide +kernel
theorem dX8_when_27 : decode cX8_when 27 = .ok (.invokevirtual 271, 3) := by decide +kernel
theorem dX8_when_30 : decode cX8_when 30 = .ok (.iload_n 1, 1) := by decide +kernel
theorem dX8_when_31 : decode cX8_when 31 = .ok (.iconst 1, 1) := by decide +kernel
theorem dX8_when_32 : decode cX8_when 32 = .ok (.if_icmp .ne 10, 3) := by decide +kernel
theorem dX8_when_35 : decode cX8_when 35 = .ok (.aload_n 0, 1) := by decide +kernel
theorem dX8_when_36 : decode cX8_when 36 = .ok (.getfield 262, 3) := by decide +kernel
theorem dX8_when_39 : decode cX8_when 39 = .ok (.goto 14, 3) := by decide +kernel
theorem dX8_when_42 : decode cX8_when 42 = .ok (.iload_n 2, 1) := by decide +kernel
theorem dX8_when_43 : decode cX8_when 43 = .ok (.bipush 60, 2) := by decide +kernel
theorem dX8_when_45 : decode cX8_when 45 = .ok (.if_icmp .gt 7, 3) := by decide +kernel
theorem dX8_when_48 : decode cX8_when 48 = .ok (.iload_n 2, 1) := by decide +kernel
theorem dX8_when_49 : decode cX8_when 49 = .ok (.goto 4, 3) := by decide +kernel
theorem dX8_when_52 : decode cX8_when 52 = .ok (.iconst (-1), 1) := by decide +kernel
theorem dX8_when_53 : decode cX8_when 53 = .ok (.ireturn, 1) := by decide +kernel
theorem dX8_ahead_0 : decode cX8_ahead 0 = .ok (.iload_n 1, 1) := by decide +kernel
theorem dX8_ahead_1 : decode cX8_ahead 1 = .ok (.i2l, 1) := by decide +kernel
theorem dX8_ahead_2 : decode cX8_ahead 2 = .ok (.lconst 0, 1) := by decide +kernel
theorem dX8_ahead_3 : decode cX8_ahead 3 = .ok (.ldc2_w 274, 3) := by decide +kernel
theorem dX8_ahead_6 : decode cX8_ahead 6 = .ok (.invokestatic 91, 3) := by decide +kernel
theorem dX8_ahead_9 : decode cX8_ahead 9 = .ok (.ifCond .eq 15, 3) := by decide +kernel
theorem dX8_ahead_12 : decode cX8_ahead 12 = .ok (.iload_n 2, 1) := by decide +kernel
theorem dX8_ahead_13 : decode cX8_ahead 13 = .ok (.i2l, 1) := by decide +kernel
theorem dX8_ahead_14 : decode cX8_ahead 14 = .ok (.lconst 0, 1) := by decide +kernel
theorem dX8_ahead_15 : decode cX8_ahead 15 = .ok (.ldc2_w 133, 3) := by decide +kernel
theorem dX8_ahead_18 : decode cX8_ahead 18 = .ok (.invokestatic 91, 3) := by decide +kernel
theorem dX8_ahead_21 : decode cX8_ahead 21 = .ok (.ifCond .ne 10, 3) := by decide +kernel
theorem dX8_ahead_24 : decode cX8_ahead 24 = .ok (.aload_n 0, 1) := by decide +kernel
theorem dX8_ahead_25 : decode cX8_ahead 25 = .ok (.bipush (-2), 2) := by decide +kernel
theorem dX8_ahead_27 : decode cX8_ahead 27 = .ok (.invokevirtual 101, 3) := by decide +kernel
theorem dX8_ahead_30 : decode cX8_ahead 30 = .ok (.ireturn, 1) := by decide +kernel
theorem dX8_ahead_31 : decode cX8_ahead 31 = .ok (.aload_n 0, 1) := by decide +kernel
theorem dX8_ahead_32 : decode cX8_ahead 32 = .ok (.invokevirtual 265, 3) := by decide +kernel
theorem dX8_ahead_35 : decode cX8_ahead 35 = .ok (.iconst 0, 1) := by decide +kernel
theorem dX8_ahead_36 : decode cX8_ahead 36 = .ok (.istore_n 3, 1) := by decide +kernel
theorem dX8_ahead_37 : decode cX8_ahead 37 = .ok (.iload_n 3, 1) := by decide +kernel
theorem dX8_ahead_38 : decode cX8_ahead 38 = .ok (.iload_n 1, 1) := by decide +kernel
theorem dX8_ahead_39 : decode cX8_ahead 39 = .ok (.if_icmp .ge 13, 3) := by decide +kernel
theorem dX8_ahead_42 : decode cX8_ahead 42 = .ok (.aload_n 0, 1) := by decide +kernel
theorem dX8_ahead_43 : decode cX8_ahead 43 = .ok (.invokevirtual 259, 3) := by decide +kernel
theorem dX8_ahead_46 : decode cX8_ahead 46 = .ok (.iinc 3 1, 3) := by decide +kernel
theorem dX8_ahead_49 : decode cX8_ahead 49 = .ok (.goto (-12), 3) := by decide +kernel
theorem dX8_ahead_52 : decode cX8_ahead 52 = .ok (.aload_n 0, 1) := by decide +kernel
theorem dX8_ahead_53 : decode cX8_ahead 53 = .ok (.invokevirtual 236, 3) := by decide +kernel
theorem dX8_ahead_56 : decode cX8_ahead 56 = .ok (.istore_n 3, 1) := by decide +kernel
theorem dX8_ahead_57 : decode cX8_ahead 57 = .ok (.iload_n 2, 1) := by decide +kernel
theorem dX8_ahead_58 : decode cX8_ahead 58 = .ok (.ifCond .ne 10, 3) := by decide +kernel
theorem dX8_ahead_61 : decode cX8_ahead 61 = .ok (.aload_n 0, 1) := by decide +kernel
theorem dX8_ahead_62 : decode cX8_ahead 62 = .ok (.getfield 37, 3) := by decide +kernel
theorem dX8_ahead_65 : decode cX8_ahead 65 = .ok (.goto 26, 3) := by decide +kernel
theorem dX8_ahead_68 : decode cX8_ahead 68 = .ok (.iload_n 2, 1) := by decide +kernel
theorem dX8_ahead_69 : decode cX8_ahead 69 = .ok (.iconst 1, 1) := by decide +kernel
theorem dX8_ahead_70 : decode cX8_ahead 70 = .ok (.if_icmp .ne 7, 3) := by decide +kernel
theorem dX8_ahead_73 : decode cX8_ahead 73 = .ok (.iload_n 3, 1) := by decide +kernel
theorem dX8_ahead_74 : decode cX8_ahead 74 = .ok (.goto 17, 3) := by decide +kernel
theorem dX8_ahead_77 : decode cX8_ahead 77 = .ok (.iload_n 3, 1) := by decide +kernel
theorem dX8_ahead_78 : decode cX8_ahead 78 = .ok (.iconst (-1), 1) := by decide +kernel
theorem dX8_ahead_79 : decode cX8_ahead 79 = .ok (.if_icmp .ne 7, 3) := by decide +kernel
theorem dX8_ahead_82 : decode cX8_ahead 82 = .ok (.iconst 0, 1) := by decide +kernel
theorem dX8_ahead_83 : decode cX8_ahead 83 = .ok (.goto 8, 3) := by decide +kernel
theorem dX8_ahead_86 : decode cX8_ahead 86 = .ok (.aload_n 0, 1) := by decide +kernel
theorem dX8_ahead_87 : decode cX8_ahead 87 = .ok (.iload_n 3, 1) := by decide +kernel
theorem dX8_ahead_88 : decode cX8_ahead 88 = .ok (.invokevirtual 122, 3) := by decide +kernel
theorem dX8_ahead_91 : decode cX8_ahead 91 = .ok (.istore 4, 2) := by decide +kernel
theorem dX8_ahead_93 : decode cX8_ahead 93 = .ok (.aload_n 0, 1) := by decide +kernel
theorem dX8_ahead_94 : decode cX8_ahead 94 = .ok (.invokevirtual 271, 3) := by decide +kernel
theorem dX8_ahead_97 : decode cX8_ahead 97 = .ok (.iload 4, 2) := by decide +kernel
theorem dX8_ahead_99 : decode cX8_ahead 99 = .ok (.ireturn, 1) := by decide +kernel
theorem dX8_later_0 : decode cX8_later 0 = .ok (.aload_n 0, 1) := by decide +kernel
theorem dX8_later_1 : decode cX8_later 1 = .ok (.iload_n 1, 1) := by decide +kernel
theorem dX8_later_2 : decode cX8_later 2 = .ok (.i2l, 1) := by decide +kernel
theorem dX8_later_3 : decode cX8_later 3 = .ok (.invokevirtual 112, 3) := by decide +kernel
theorem dX8_later_6 : decode cX8_later 6 = .ok (.ifCond .eq 15, 3) := by decide +kernel
theorem dX8_later_9 : decode cX8_later 9 = .ok (.iload_n 2, 1) := by decide +kernel
theorem dX8_later_10 : decode cX8_later 10 = .ok (.i2l, 1) := by decide +kernel
theorem dX8_later_11 : decode cX8_later 11 = .ok (.lconst 0, 1) := by decide +kernel
theorem dX8_later_12 : decode cX8_later 12 = .ok (.ldc2_w 274, 3) := by decide +kernel
theorem dX8_later_15 : decode cX8_later 15 = .ok (.invokestatic 91, 3) := by decide +kernel
theorem dX8_later_18 : decode cX8_later 18 = .ok (.ifCond .ne 10, 3) := by decide +kernel
theorem dX8_later_21 : decode cX8_later 21 = .ok (.aload_n 0, 1) := by decide +kernel
theorem dX8_later_22 : decode cX8_later 22 = .ok (.bipush (-2), 2) := by decide +kernel
theorem dX8_later_24 : decode cX8_later 24 = .ok (.invokevirtual 101, 3) := by decide +kernel
theorem dX8_later_27 : decode cX8_later 27 = .ok (.ireturn, 1) := by decide +kernel
theorem dX8_later_28 : decode cX8_later 28 = .ok (.aload_n 0, 1) := by decide +kernel
theorem dX8_later_29 : decode cX8_later 29 = .ok (.invokevirtual 265, 3) := by decide +kernel
theorem dX8_later_32 : decode cX8_later 32 = .ok (.iconst 0, 1) := by decide +kernel
theorem dX8_later_33 : decode cX8_later 33 = .ok (.istore_n 3, 1) := by decide +kernel
theorem dX8_later_34 : decode cX8_later 34 = .ok (.iload_n 3, 1) := by decide +kernel
theorem dX8_later_35 : decode cX8_later 35 = .ok (.iload_n 2, 1) := by decide +kernel
theorem dX8_later_36 : decode cX8_later 36 = .ok (.if_icmp .ge 13, 3) := by decide +kernel
theorem dX8_later_39 : decode cX8_later 39 = .ok (.aload_n 0, 1) := by decide +kernel
theorem dX8_later_40 : decode cX8_later 40 = .ok (.invokevirtual 259, 3) := by decide +kernel
theorem dX8_later_43 : decode cX8_later 43 = .ok (.iinc 3 1, 3) := by decide +kernel
theorem dX8_later_46 : decode cX8_later 46 = .ok (.goto (-12), 3) := by decide +kernel
theorem dX8_later_49 : decode cX8_later 49 = .ok (.aload_n 0, 1) := by decide +kernel
theorem dX8_later_50 : decode cX8_later 50 = .ok (.iload_n 1, 1) := by decide +kernel
theorem dX8_later_51 : decode cX8_later 51 = .ok (.invokevirtual 122, 3) := by decide +kernel
theorem dX8_later_54 : decode cX8_later 54 = .ok (.istore_n 3, 1) := by decide +kernel
theorem dX8_later_55 : decode cX8_later 55 = .ok (.aload_n 0, 1) := by decide +kernel
theorem dX8_later_56 : decode cX8_later 56 = .ok (.invokevirtual 271, 3) := by decide +kernel
theorem dX8_later_59 : decode cX8_later 59 = .ok (.iload_n 3, 1) := by decide +kernel
theorem dX8_later_60 : decode cX8_later 60 = .ok (.ireturn, 1) := by decide +kernel
theorem dX8_lasts_0 : decode cX8_lasts 0 = .ok (.aload_n 0, 1) := by decide +kernel
theorem dX8_lasts_1 : decode cX8_lasts 1 = .ok (.invokevirtual 265, 3) := by decide +kernel
theorem dX8_lasts_4 : decode cX8_lasts 4 = .ok (.iconst 0, 1) := by decide +kernel
theorem dX8_lasts_5 : decode cX8_lasts 5 = .ok (.istore_n 2, 1) := by decide +kernel
theorem dX8_lasts_6 : decode cX8_lasts 6 = .ok (.iload_n 2, 1) := by decide +kernel
theorem dX8_lasts_7 : decode cX8_lasts 7 = .ok (.bipush 60, 2) := by decide +kernel
theorem dX8_lasts_9 : decode cX8_lasts 9 = .ok (.if_icmp .gt 21, 3) := by decide +kernel
theorem dX8_lasts_12 : decode cX8_lasts 12 = .ok (.aload_n 0, 1) := by decide +kernel
theorem dX8_lasts_13 : decode cX8_lasts 13 = .ok (.iload_n 1, 1) := by decide +kernel
theorem dX8_lasts_14 : decode cX8_lasts 14 = .ok (.invokevirtual 239, 3) := by decide +kernel
theorem dX8_lasts_17 : decode cX8_lasts 17 = .ok (.ifCond .ne 13, 3) := by decide +kernel
theorem dX8_lasts_20 : decode cX8_lasts 20 = .ok (.aload_n 0, 1) := by decide +kernel
theorem dX8_lasts_21 : decode cX8_lasts 21 = .ok (.invokevirtual 259, 3) := by decide +kernel
theorem dX8_lasts_24 : decode cX8_lasts 24 = .ok (.iinc 2 1, 3) := by decide +kernel
theorem dX8_lasts_27 : decode cX8_lasts 27 = .ok (.goto (-21), 3) := by decide +kernel
theorem dX8_lasts_30 : decode cX8_lasts 30 = .ok (.aload_n 0, 1) := by decide +kernel
theorem dX8_lasts_31 : decode cX8_lasts 31 = .ok (.invokevirtual 271, 3) := by decide +kernel
theorem dX8_lasts_34 : decode cX8_lasts 34 = .ok (.iload_n 2, 1) := by decide +kernel
theorem dX8_lasts_35 : decode cX8_lasts 35 = .ok (.ireturn, 1) := by decide +kernel
theorem dX8_holdsOut_0 : decode cX8_holdsOut 0 = .ok (.aload_n 0, 1) := by decide +kernel
theorem dX8_holdsOut_1 : decode cX8_holdsOut 1 = .ok (.iload_n 1, 1) := by decide +kernel
theorem dX8_holdsOut_2 : decode cX8_holdsOut 2 = .ok (.i2l, 1) := by decide +kernel
theorem dX8_holdsOut_3 : decode cX8_holdsOut 3 = .ok (.invokevirtual 112, 3) := by decide +kernel
theorem dX8_holdsOut_6 : decode cX8_holdsOut 6 = .ok (.ifCond .ne 10, 3) := by decide +kernel
theorem dX8_holdsOut_9 : decode cX8_holdsOut 9 = .ok (.aload_n 0, 1) := by decide +kernel
theorem dX8_holdsOut_10 : decode cX8_holdsOut 10 = .ok (.bipush (-2), 2) := by decide +kernel
theorem dX8_holdsOut_12 : decode cX8_holdsOut 12 = .ok (.invokevirtual 101, 3) := by decide +kernel
theorem dX8_holdsOut_15 : decode cX8_holdsOut 15 = .ok (.ireturn, 1) := by decide +kernel
theorem dX8_holdsOut_16 : decode cX8_holdsOut 16 = .ok (.aload_n 0, 1) := by decide +kernel
theorem dX8_holdsOut_17 : decode cX8_holdsOut 17 = .ok (.iload_n 1, 1) := by decide +kernel
theorem dX8_holdsOut_18 : decode cX8_holdsOut 18 = .ok (.invokevirtual 276, 3) := by decide +kernel
theorem dX8_holdsOut_21 : decode cX8_holdsOut 21 = .ok (.istore_n 2, 1) := by decide +kernel
theorem dX8_holdsOut_22 : decode cX8_holdsOut 22 = .ok (.iload_n 2, 1) := by decide +kernel
theorem dX8_holdsOut_23 : decode cX8_holdsOut 23 = .ok (.bipush 60, 2) := by decide +kernel
theorem dX8_holdsOut_25 : decode cX8_holdsOut 25 = .ok (.if_icmp .gt 7, 3) := by decide +kernel
theorem dX8_holdsOut_28 : decode cX8_holdsOut 28 = .ok (.iload_n 2, 1) := by decide +kernel
theorem dX8_holdsOut_29 : decode cX8_holdsOut 29 = .ok (.goto 4, 3) := by decide +kernel
theorem dX8_holdsOut_32 : decode cX8_holdsOut 32 = .ok (.iconst (-1), 1) := by decide +kernel
theorem dX8_holdsOut_33 : decode cX8_holdsOut 33 = .ok (.ireturn, 1) := by decide +kernel
theorem dX8_toughest_0 : decode cX8_toughest 0 = .ok (.iload_n 1, 1) := by decide +kernel
theorem dX8_toughest_1 : decode cX8_toughest 1 = .ok (.i2l, 1) := by decide +kernel
theorem dX8_toughest_2 : decode cX8_toughest 2 = .ok (.lconst 0, 1) := by decide +kernel
theorem dX8_toughest_3 : decode cX8_toughest 3 = .ok (.lconst 1, 1) := by decide +kernel
theorem dX8_toughest_4 : decode cX8_toughest 4 = .ok (.invokestatic 91, 3) := by decide +kernel
theorem dX8_toughest_7 : decode cX8_toughest 7 = .ok (.ifCond .ne 10, 3) := by decide +kernel
theorem dX8_toughest_10 : decode cX8_toughest 10 = .ok (.aload_n 0, 1) := by decide +kernel
theorem dX8_toughest_11 : decode cX8_toughest 11 = .ok (.bipush (-2), 2) := by decide +kernel
theorem dX8_toughest_13 : decode cX8_toughest 13 = .ok (.invokevirtual 101, 3) := by decide +kernel
theorem dX8_toughest_16 : decode cX8_toughest 16 = .ok (.ireturn, 1) := by decide +kernel
theorem dX8_toughest_17 : decode cX8_toughest 17 = .ok (.aload_n 0, 1) := by decide +kernel
theorem dX8_toughest_18 : decode cX8_toughest 18 = .ok (.getfield 88, 3) := by decide +kernel
theorem dX8_toughest_21 : decode cX8_toughest 21 = .ok (.ifCond .ne 10, 3) := by decide +kernel
theorem dX8_toughest_24 : decode cX8_toughest 24 = .ok (.aload_n 0, 1) := by decide +kernel
theorem dX8_toughest_25 : decode cX8_toughest 25 = .ok (.bipush (-5), 2) := by decide +kernel
theorem dX8_toughest_27 : decode cX8_toughest 27 = .ok (.invokevirtual 101, 3) := by decide +kernel
theorem dX8_toughest_30 : decode cX8_toughest 30 = .ok (.ireturn, 1) := by decide +kernel
theorem dX8_toughest_31 : decode cX8_toughest 31 = .ok (.iconst 0, 1) := by decide +kernel
theorem dX8_toughest_32 : decode cX8_toughest 32 = .ok (.istore_n 2, 1) := by decide +kernel
theorem dX8_toughest_33 : decode cX8_toughest 33 = .ok (.iconst 1, 1) := by decide +kernel
theorem dX8_toughest_34 : decode cX8_toughest 34 = .ok (.istore_n 3, 1) := by decide +kernel
theorem dX8_toughest_35 : decode cX8_toughest 35 = .ok (.iload_n 3, 1) := by decide +kernel
theorem dX8_toughest_36 : decode cX8_toughest 36 = .ok (.aload_n 0, 1) := by decide +kernel
theorem dX8_toughest_37 : decode cX8_toughest 37 = .ok (.getfield 88, 3) := by decide +kernel
theorem dX8_toughest_40 : decode cX8_toughest 40 = .ok (.if_icmp .ge 50, 3) := by decide +kernel
theorem dX8_toughest_43 : decode cX8_toughest 43 = .ok (.iload_n 1, 1) := by decide +kernel
theorem dX8_toughest_44 : decode cX8_toughest 44 = .ok (.ifCond .ne 16, 3) := by decide +kernel
theorem dX8_toughest_47 : decode cX8_toughest 47 = .ok (.aload_n 0, 1) := by decide +kernel
theorem dX8_toughest_48 : decode cX8_toughest 48 = .ok (.iload_n 3, 1) := by decide +kernel
theorem dX8_toughest_49 : decode cX8_toughest 49 = .ok (.invokevirtual 276, 3) := by decide +kernel
theorem dX8_toughest_52 : decode cX8_toughest 52 = .ok (.aload_n 0, 1) := by decide +kernel
theorem dX8_toughest_53 : decode cX8_toughest 53 = .ok (.iload_n 2, 1) := by decide +kernel
theorem dX8_toughest_54 : decode cX8_toughest 54 = .ok (.invokevirtual 276, 3) := by decide +kernel
theorem dX8_toughest_57 : decode cX8_toughest 57 = .ok (.if_icmp .gt 21, 3) := by decide +kernel
theorem dX8_toughest_60 : decode cX8_toughest 60 = .ok (.iload_n 1, 1) := by decide +kernel
theorem dX8_toughest_61 : decode cX8_toughest 61 = .ok (.iconst 1, 1) := by decide +kernel
theorem dX8_toughest_62 : decode cX8_toughest 62 = .ok (.if_icmp .ne 20, 3) := by decide +kernel
theorem dX8_toughest_65 : decode cX8_toughest 65 = .ok (.aload_n 0, 1) := by decide +kernel
theorem dX8_toughest_66 : decode cX8_toughest 66 = .ok (.iload_n 3, 1) := by decide +kernel
theorem dX8_toughest_67 : decode cX8_toughest 67 = .ok (.invokevirtual 276, 3) := by decide +kernel
theorem dX8_toughest_70 : decode cX8_toughest 70 = .ok (.aload_n 0, 1) := by decide +kernel
theorem dX8_toughest_71 : decode cX8_toughest 71 = .ok (.iload_n 2, 1) := by decide +kernel
theorem dX8_toughest_72 : decode cX8_toughest 72 = .ok (.invokevirtual 276, 3) := by decide +kernel
theorem dX8_toughest_75 : decode cX8_toughest 75 = .ok (.if_icmp .ge 7, 3) := by decide +kernel
theorem dX8_toughest_78 : decode cX8_toughest 78 = .ok (.iload_n 3, 1) := by decide +kernel
theorem dX8_toughest_79 : decode cX8_toughest 79 = .ok (.goto 4, 3) := by decide +kernel
theorem dX8_toughest_82 : decode cX8_toughest 82 = .ok (.iload_n 2, 1) := by decide +kernel
theorem dX8_toughest_83 : decode cX8_toughest 83 = .ok (.istore_n 2, 1) := by decide +kernel
theorem dX8_toughest_84 : decode cX8_toughest 84 = .ok (.iinc 3 1, 3) := by decide +kernel
theorem dX8_toughest_87 : decode cX8_toughest 87 = .ok (.goto (-52), 3) := by decide +kernel
theorem dX8_toughest_90 : decode cX8_toughest 90 = .ok (.iload_n 2, 1) := by decide +kernel
theorem dX8_toughest_91 : decode cX8_toughest 91 = .ok (.ireturn, 1) := by decide +kernel
theorem dX8_full_0 : decode cX8_full 0 = .ok (.iload_n 0, 1) := by decide +kernel
theorem dX8_full_1 : decode cX8_full 1 = .ok (.bipush 40, 2) := by decide +kernel
theorem dX8_full_3 : decode cX8_full 3 = .ok (.if_icmp .le 8, 3) := by decide +kernel
theorem dX8_full_6 : decode cX8_full 6 = .ok (.bipush 40, 2) := by decide +kernel
theorem dX8_full_8 : decode cX8_full 8 = .ok (.goto 4, 3) := by decide +kernel
theorem dX8_full_11 : decode cX8_full 11 = .ok (.iload_n 0, 1) := by decide +kernel
theorem dX8_full_12 : decode cX8_full 12 = .ok (.ireturn, 1) := by decide +kernel
theorem dX8_isLater_0 : decode cX8_isLater 0 = .ok (.aload_n 0, 1) := by decide +kernel
theorem dX8_isLater_1 : decode cX8_isLater 1 = .ok (.invokevirtual 265, 3) := by decide +kernel
theorem dX8_isLater_4 : decode cX8_isLater 4 = .ok (.iconst 0, 1) := by decide +kernel
theorem dX8_isLater_5 : decode cX8_isLater 5 = .ok (.istore 4, 2) := by decide +kernel
theorem dX8_isLater_7 : decode cX8_isLater 7 = .ok (.iload 4, 2) := by decide +kernel
theorem dX8_isLater_9 : decode cX8_isLater 9 = .ok (.aload_n 0, 1) := by decide +kernel
theorem dX8_isLater_10 : decode cX8_isLater 10 = .ok (.getfield 88, 3) := by decide +kernel
theorem dX8_isLater_13 : decode cX8_isLater 13 = .ok (.if_icmp .ge 48, 3) := by decide +kernel
theorem dX8_isLater_16 : decode cX8_isLater 16 = .ok (.aload_n 0, 1) := by decide +kernel
theorem dX8_isLater_17 : decode cX8_isLater 17 = .ok (.getfield 62, 3) := by decide +kernel
theorem dX8_isLater_20 : decode cX8_isLater 20 = .ok (.iload 4, 2) := by decide +kernel
theorem dX8_isLater_22 : decode cX8_isLater 22 = .ok (.iload_n 1, 1) := by decide +kernel
theorem dX8_isLater_23 : decode cX8_isLater 23 = .ok (.iload 4, 2) := by decide +kernel
theorem dX8_isLater_25 : decode cX8_isLater 25 = .ok (.ishr, 1) := by decide +kernel
theorem dX8_isLater_26 : decode cX8_isLater 26 = .ok (.iconst 1, 1) := by decide +kernel
theorem dX8_isLater_27 : decode cX8_isLater 27 = .ok (.iand, 1) := by decide +kernel
theorem dX8_isLater_28 : decode cX8_isLater 28 = .ok (.iconst 1, 1) := by decide +kernel
theorem dX8_isLater_29 : decode cX8_isLater 29 = .ok (.if_icmp .ne 18, 3) := by decide +kernel
theorem dX8_isLater_32 : decode cX8_isLater 32 = .ok (.aload_n 0, 1) := by decide +kernel
theorem dX8_isLater_33 : decode cX8_isLater 33 = .ok (.getfield 62, 3) := by decide +kernel
theorem dX8_isLater_36 : decode cX8_isLater 36 = .ok (.iload 4, 2) := by decide +kernel
theorem dX8_isLater_38 : decode cX8_isLater 38 = .ok (.iaload, 1) := by decide +kernel
theorem dX8_isLater_39 : decode cX8_isLater 39 = .ok (.iload_n 2, 1) := by decide +kernel
theorem dX8_isLater_40 : decode cX8_isLater 40 = .ok (.iadd, 1) := by decide +kernel
theorem dX8_isLater_41 : decode cX8_isLater 41 = .ok (.invokestatic 279, 3) := by decide +kernel
theorem dX8_isLater_44 : decode cX8_isLater 44 = .ok (.goto 10, 3) := by decide +kernel
theorem dX8_isLater_47 : decode cX8_isLater 47 = .ok (.aload_n 0, 1) := by decide +kernel
theorem dX8_isLater_48 : decode cX8_isLater 48 = .ok (.getfield 62, 3) := by decide +kernel
theorem dX8_isLater_51 : decode cX8_isLater 51 = .ok (.iload 4, 2) := by decide +kernel
theorem dX8_isLater_53 : decode cX8_isLater 53 = .ok (.iaload, 1) := by decide +kernel
theorem dX8_isLater_54 : decode cX8_isLater 54 = .ok (.iastore, 1) := by decide +kernel
theorem dX8_isLater_55 : decode cX8_isLater 55 = .ok (.iinc 4 1, 3) := by decide +kernel
theorem dX8_isLater_58 : decode cX8_isLater 58 = .ok (.goto (-51), 3) := by decide +kernel
theorem dX8_isLater_61 : decode cX8_isLater 61 = .ok (.aload_n 0, 1) := by decide +kernel
theorem dX8_isLater_62 : decode cX8_isLater 62 = .ok (.invokevirtual 268, 3) := by decide +kernel
theorem dX8_isLater_65 : decode cX8_isLater 65 = .ok (.iload_n 3, 1) := by decide +kernel
theorem dX8_isLater_66 : decode cX8_isLater 66 = .ok (.if_icmp .le 7, 3) := by decide +kernel
theorem dX8_isLater_69 : decode cX8_isLater 69 = .ok (.iconst 1, 1) := by decide +kernel
theorem dX8_isLater_70 : decode cX8_isLater 70 = .ok (.goto 4, 3) := by decide +kernel
theorem dX8_isLater_73 : decode cX8_isLater 73 = .ok (.iconst 0, 1) := by decide +kernel
theorem dX8_isLater_74 : decode cX8_isLater 74 = .ok (.istore 4, 2) := by decide +kernel
theorem dX8_isLater_76 : decode cX8_isLater 76 = .ok (.aload_n 0, 1) := by decide +kernel
theorem dX8_isLater_77 : decode cX8_isLater 77 = .ok (.invokevirtual 271, 3) := by decide +kernel
theorem dX8_isLater_80 : decode cX8_isLater 80 = .ok (.iload 4, 2) := by decide +kernel
theorem dX8_isLater_82 : decode cX8_isLater 82 = .ok (.ireturn, 1) := by decide +kernel
theorem dX8_findFeed_0 : decode cX8_findFeed 0 = .ok (.aload_n 0, 1) := by decide +kernel
theorem dX8_findFeed_1 : decode cX8_findFeed 1 = .ok (.aload_n 0, 1) := by decide +kernel
theorem dX8_findFeed_2 : decode cX8_findFeed 2 = .ok (.iconst 0, 1) := by decide +kernel
theorem dX8_findFeed_3 : decode cX8_findFeed 3 = .ok (.iconst 0, 1) := by decide +kernel
theorem dX8_findFeed_4 : decode cX8_findFeed 4 = .ok (.iload_n 1, 1) := by decide +kernel
theorem dX8_findFeed_5 : decode cX8_findFeed 5 = .ok (.invokevirtual 282, 3) := by decide +kernel
theorem dX8_findFeed_8 : decode cX8_findFeed 8 = .ok (.ifCond .eq 7, 3) := by decide +kernel
theorem dX8_findFeed_11 : decode cX8_findFeed 11 = .ok (.iconst 0, 1) := by decide +kernel
theorem dX8_findFeed_12 : decode cX8_findFeed 12 = .ok (.goto 4, 3) := by decide +kernel
theorem dX8_findFeed_15 : decode cX8_findFeed 15 = .ok (.iconst (-1), 1) := by decide +kernel
theorem dX8_findFeed_16 : decode cX8_findFeed 16 = .ok (.putfield 285, 3) := by decide +kernel
theorem dX8_findFeed_19 : decode cX8_findFeed 19 = .ok (.aload_n 0, 1) := by decide +kernel
theorem dX8_findFeed_20 : decode cX8_findFeed 20 = .ok (.iconst (-1), 1) := by decide +kernel
theorem dX8_findFeed_21 : decode cX8_findFeed 21 = .ok (.putfield 288, 3) := by decide +kernel
theorem dX8_findFeed_24 : decode cX8_findFeed 24 = .ok (.iconst 1, 1) := by decide +kernel
theorem dX8_findFeed_25 : decode cX8_findFeed 25 = .ok (.istore_n 2, 1) := by decide +kernel
theorem dX8_findFeed_26 : decode cX8_findFeed 26 = .ok (.iload_n 2, 1) := by decide +kernel
theorem dX8_findFeed_27 : decode cX8_findFeed 27 = .ok (.bipush 40, 2) := by decide +kernel
theorem dX8_findFeed_29 : decode cX8_findFeed 29 = .ok (.if_icmp .gt 63, 3) := by decide +kernel
theorem dX8_findFeed_32 : decode cX8_findFeed 32 = .ok (.aload_n 0, 1) := by decide +kernel
theorem dX8_findFeed_33 : decode cX8_findFeed 33 = .ok (.getfield 285, 3) := by decide +kernel
theorem dX8_findFeed_36 : decode cX8_findFeed 36 = .ok (.iconst (-1), 1) := by decide +kernel
theorem dX8_findFeed_37 : decode cX8_findFeed 37 = .ok (.if_icmp .ne 55, 3) := by decide +kernel
theorem dX8_findFeed_40 : decode cX8_findFeed 40 = .ok (.iconst 0, 1) := by decide +kernel
theorem dX8_findFeed_41 : decode cX8_findFeed 41 = .ok (.istore_n 3, 1) := by decide +kernel
theorem dX8_findFeed_42 : decode cX8_findFeed 42 = .ok (.iload_n 3, 1) := by decide +kernel
theorem dX8_findFeed_43 : decode cX8_findFeed 43 = .ok (.aload_n 0, 1) := by decide +kernel
theorem dX8_findFeed_44 : decode cX8_findFeed 44 = .ok (.getfield 88, 3) := by decide +kernel
theorem dX8_findFeed_47 : decode cX8_findFeed 47 = .ok (.if_icmp .ge 39, 3) := by decide +kernel
theorem dX8_findFeed_50 : decode cX8_findFeed 50 = .ok (.aload_n 0, 1) := by decide +kernel
theorem dX8_findFeed_51 : decode cX8_findFeed 51 = .ok (.getfield 285, 3) := by decide +kernel
theorem dX8_findFeed_54 : decode cX8_findFeed 54 = .ok (.iconst (-1), 1) := by decide +kernel
theorem dX8_findFeed_55 : decode cX8_findFeed 55 = .ok (.if_icmp .ne 31, 3) := by decide +kernel
theorem dX8_findFeed_58 : decode cX8_findFeed 58 = .ok (.aload_n 0, 1) := by decide +kernel
theorem dX8_findFeed_59 : decode cX8_findFeed 59 = .ok (.iconst 1, 1) := by decide +kernel
theorem dX8_findFeed_60 : decode cX8_findFeed 60 = .ok (.iload_n 3, 1) := by decide +kernel
theorem dX8_findFeed_61 : decode cX8_findFeed 61 = .ok (.ishl, 1) := by decide +kernel
theorem dX8_findFeed_62 : decode cX8_findFeed 62 = .ok (.iload_n 2, 1) := by decide +kernel
theorem dX8_findFeed_63 : decode cX8_findFeed 63 = .ok (.iload_n 1, 1) := by decide +kernel
theorem dX8_findFeed_64 : decode cX8_findFeed 64 = .ok (.invokevirtual 282, 3) := by decide +kernel
theorem dX8_findFeed_67 : decode cX8_findFeed 67 = .ok (.ifCond .eq 13, 3) := by decide +kernel
theorem dX8_findFeed_70 : decode cX8_findFeed 70 = .ok (.aload_n 0, 1) := by decide +kernel
theorem dX8_findFeed_71 : decode cX8_findFeed 71 = .ok (.iload_n 2, 1) := by decide +kernel
theorem dX8_findFeed_72 : decode cX8_findFeed 72 = .ok (.putfield 285, 3) := by decide +kernel
theorem dX8_findFeed_75 : decode cX8_findFeed 75 = .ok (.aload_n 0, 1) := by decide +kernel
theorem dX8_findFeed_76 : decode cX8_findFeed 76 = .ok (.iload_n 3, 1) := by decide +kernel
theorem dX8_findFeed_77 : decode cX8_findFeed 77 = .ok (.putfield 288, 3) := by decide +kernel
theorem dX8_findFeed_80 : decode cX8_findFeed 80 = .ok (.iinc 3 1, 3) := by decide +kernel
theorem dX8_findFeed_83 : decode cX8_findFeed 83 = .ok (.goto (-41), 3) := by decide +kernel
theorem dX8_findFeed_86 : decode cX8_findFeed 86 = .ok (.iinc 2 1, 3) := by decide +kernel
theorem dX8_findFeed_89 : decode cX8_findFeed 89 = .ok (.goto (-63), 3) := by decide +kernel
theorem dX8_findFeed_92 : decode cX8_findFeed 92 = .ok (.return_, 1) := by decide +kernel
theorem dX8_feeds_0 : decode cX8_feeds 0 = .ok (.iload_n 1, 1) := by decide +kernel
theorem dX8_feeds_1 : decode cX8_feeds 1 = .ok (.i2l, 1) := by decide +kernel
theorem dX8_feeds_2 : decode cX8_feeds 2 = .ok (.lconst 0, 1) := by decide +kernel
theorem dX8_feeds_3 : decode cX8_feeds 3 = .ok (.ldc2_w 291, 3) := by decide +kernel
theorem dX8_feeds_6 : decode cX8_feeds 6 = .ok (.invokestatic 91, 3) := by decide +kernel
theorem dX8_feeds_9 : decode cX8_feeds 9 = .ok (.ifCond .eq 15, 3) := by decide +kernel
theorem dX8_feeds_12 : decode cX8_feeds 12 = .ok (.iload_n 2, 1) := by decide +kernel
theorem dX8_feeds_13 : decode cX8_feeds 13 = .ok (.i2l, 1) := by decide +kernel
theorem dX8_feeds_14 : decode cX8_feeds 14 = .ok (.lconst 0, 1) := by decide +kernel
theorem dX8_feeds_15 : decode cX8_feeds 15 = .ok (.ldc2_w 133, 3) := by decide +kernel
theorem dX8_feeds_18 : decode cX8_feeds 18 = .ok (.invokestatic 91, 3) := by decide +kernel
theorem dX8_feeds_21 : decode cX8_feeds 21 = .ok (.ifCond .ne 10, 3) := by decide +kernel
theorem dX8_feeds_24 : decode cX8_feeds 24 = .ok (.aload_n 0, 1) := by decide +kernel
theorem dX8_feeds_25 : decode cX8_feeds 25 = .ok (.bipush (-2), 2) := by decide +kernel
theorem dX8_feeds_27 : decode cX8_feeds 27 = .ok (.invokevirtual 101, 3) := by decide +kernel
theorem dX8_feeds_30 : decode cX8_feeds 30 = .ok (.ireturn, 1) := by decide +kernel
theorem dX8_feeds_31 : decode cX8_feeds 31 = .ok (.aload_n 0, 1) := by decide +kernel
theorem dX8_feeds_32 : decode cX8_feeds 32 = .ok (.getfield 88, 3) := by decide +kernel
theorem dX8_feeds_35 : decode cX8_feeds 35 = .ok (.ifCond .ne 10, 3) := by decide +kernel
theorem dX8_feeds_38 : decode cX8_feeds 38 = .ok (.aload_n 0, 1) := by decide +kernel
theorem dX8_feeds_39 : decode cX8_feeds 39 = .ok (.bipush (-5), 2) := by decide +kernel
theorem dX8_feeds_41 : decode cX8_feeds 41 = .ok (.invokevirtual 101, 3) := by decide +kernel
theorem dX8_feeds_44 : decode cX8_feeds 44 = .ok (.ireturn, 1) := by decide +kernel
theorem dX8_feeds_45 : decode cX8_feeds 45 = .ok (.aload_n 0, 1) := by decide +kernel
theorem dX8_feeds_46 : decode cX8_feeds 46 = .ok (.iload_n 1, 1) := by decide +kernel
theorem dX8_feeds_47 : decode cX8_feeds 47 = .ok (.invokevirtual 293, 3) := by decide +kernel
theorem dX8_feeds_50 : decode cX8_feeds 50 = .ok (.iload_n 2, 1) := by decide +kernel
theorem dX8_feeds_51 : decode cX8_feeds 51 = .ok (.ifCond .ne 10, 3) := by decide +kernel
theorem dX8_feeds_54 : decode cX8_feeds 54 = .ok (.aload_n 0, 1) := by decide +kernel
theorem dX8_feeds_55 : decode cX8_feeds 55 = .ok (.getfield 285, 3) := by decide +kernel
theorem dX8_feeds_58 : decode cX8_feeds 58 = .ok (.goto 36, 3) := by decide +kernel
theorem dX8_feeds_61 : decode cX8_feeds 61 = .ok (.iload_n 2, 1) := by decide +kernel
theorem dX8_feeds_62 : decode cX8_feeds 62 = .ok (.iconst 1, 1) := by decide +kernel
theorem dX8_feeds_63 : decode cX8_feeds 63 = .ok (.if_icmp .ne 10, 3) := by decide +kernel
theorem dX8_feeds_66 : decode cX8_feeds 66 = .ok (.aload_n 0, 1) := by decide +kernel
theorem dX8_feeds_67 : decode cX8_feeds 67 = .ok (.getfield 288, 3) := by decide +kernel
theorem dX8_feeds_70 : decode cX8_feeds 70 = .ok (.goto 24, 3) := by decide +kernel
theorem dX8_feeds_73 : decode cX8_feeds 73 = .ok (.aload_n 0, 1) := by decide +kernel
theorem dX8_feeds_74 : decode cX8_feeds 74 = .ok (.getfield 285, 3) := by decide +kernel
theorem dX8_feeds_77 : decode cX8_feeds 77 = .ok (.iconst (-1), 1) := by decide +kernel
theorem dX8_feeds_78 : decode cX8_feeds 78 = .ok (.if_icmp .ne 7, 3) := by decide +kernel
theorem dX8_feeds_81 : decode cX8_feeds 81 = .ok (.iconst (-1), 1) := by decide +kernel
theorem dX8_feeds_82 : decode cX8_feeds 82 = .ok (.goto 12, 3) := by decide +kernel
theorem dX8_feeds_85 : decode cX8_feeds 85 = .ok (.aload_n 0, 1) := by decide +kernel
theorem dX8_feeds_86 : decode cX8_feeds 86 = .ok (.getfield 285, 3) := by decide +kernel
theorem dX8_feeds_89 : decode cX8_feeds 89 = .ok (.aload_n 0, 1) := by decide +kernel
theorem dX8_feeds_90 : decode cX8_feeds 90 = .ok (.getfield 47, 3) := by decide +kernel
theorem dX8_feeds_93 : decode cX8_feeds 93 = .ok (.imul, 1) := by decide +kernel
theorem dX8_feeds_94 : decode cX8_feeds 94 = .ok (.ireturn, 1) := by decide +kernel
theorem dX8_all_0 : decode cX8_all 0 = .ok (.iload_n 1, 1) := by decide +kernel
theorem dX8_all_1 : decode cX8_all 1 = .ok (.i2l, 1) := by decide +kernel
theorem dX8_all_2 : decode cX8_all 2 = .ok (.lconst 0, 1) := by decide +kernel
theorem dX8_all_3 : decode cX8_all 3 = .ok (.ldc2_w 291, 3) := by decide +kernel
theorem dX8_all_6 : decode cX8_all 6 = .ok (.invokestatic 91, 3) := by decide +kernel
theorem dX8_all_9 : decode cX8_all 9 = .ok (.ifCond .ne 10, 3) := by decide +kernel
theorem dX8_all_12 : decode cX8_all 12 = .ok (.aload_n 0, 1) := by decide +kernel
theorem dX8_all_13 : decode cX8_all 13 = .ok (.bipush (-2), 2) := by decide +kernel
theorem dX8_all_15 : decode cX8_all 15 = .ok (.invokevirtual 101, 3) := by decide +kernel
theorem dX8_all_18 : decode cX8_all 18 = .ok (.ireturn, 1) := by decide +kernel
theorem dX8_all_19 : decode cX8_all 19 = .ok (.iconst 0, 1) := by decide +kernel
theorem dX8_all_20 : decode cX8_all 20 = .ok (.istore_n 2, 1) := by decide +kernel
theorem dX8_all_21 : decode cX8_all 21 = .ok (.iload_n 2, 1) := by decide +kernel
theorem dX8_all_22 : decode cX8_all 22 = .ok (.bipush 40, 2) := by decide +kernel
theorem dX8_all_24 : decode cX8_all 24 = .ok (.if_icmp .gt 28, 3) := by decide +kernel
theorem dX8_all_27 : decode cX8_all 27 = .ok (.aload_n 0, 1) := by decide +kernel
theorem dX8_all_28 : decode cX8_all 28 = .ok (.iconst 1, 1) := by decide +kernel
theorem dX8_all_29 : decode cX8_all 29 = .ok (.aload_n 0, 1) := by decide +kernel
theorem dX8_all_30 : decode cX8_all 30 = .ok (.getfield 88, 3) := by decide +kernel
theorem dX8_all_33 : decode cX8_all 33 = .ok (.ishl, 1) := by decide +kernel
theorem dX8_all_34 : decode cX8_all 34 = .ok (.iconst 1, 1) := by decide +kernel
theorem dX8_all_35 : decode cX8_all 35 = .ok (.isub, 1) := by decide +kernel
theorem dX8_all_36 : decode cX8_all 36 = .ok (.iload_n 2, 1) := by decide +kernel
theorem dX8_all_37 : decode cX8_all 37 = .ok (.iload_n 1, 1) := by decide +kernel
theorem dX8_all_38 : decode cX8_all 38 = .ok (.invokevirtual 282, 3) := by decide +kernel
theorem dX8_all_41 : decode cX8_all 41 = .ok (.ifCond .eq 5, 3) := by decide +kernel
theorem dX8_all_44 : decode cX8_all 44 = .ok (.iload_n 2, 1) := by decide +kernel
theorem dX8_all_45 : decode cX8_all 45 = .ok (.ireturn, 1) := by decide +kernel
theorem dX8_all_46 : decode cX8_all 46 = .ok (.iinc 2 1, 3) := by decide +kernel
theorem dX8_all_49 : decode cX8_all 49 = .ok (.goto (-28), 3) := by decide +kernel
theorem dX8_all_52 : decode cX8_all 52 = .ok (.iconst (-1), 1) := by decide +kernel
theorem dX8_all_53 : decode cX8_all 53 = .ok (.ireturn, 1) := by decide +kernel
theorem dX8_bits_0 : decode cX8_bits 0 = .ok (.iconst 0, 1) := by decide +kernel
theorem dX8_bits_1 : decode cX8_bits 1 = .ok (.istore_n 1, 1) := by decide +kernel
theorem dX8_bits_2 : decode cX8_bits 2 = .ok (.iload_n 0, 1) := by decide +kernel
theorem dX8_bits_3 : decode cX8_bits 3 = .ok (.istore_n 2, 1) := by decide +kernel
theorem dX8_bits_4 : decode cX8_bits 4 = .ok (.iload_n 2, 1) := by decide +kernel
theorem dX8_bits_5 : decode cX8_bits 5 = .ok (.ifCond .eq 15, 3) := by decide +kernel
theorem dX8_bits_8 : decode cX8_bits 8 = .ok (.iinc 1 1, 3) := by decide +kernel
theorem dX8_bits_11 : decode cX8_bits 11 = .ok (.iload_n 2, 1) := by decide +kernel
theorem dX8_bits_12 : decode cX8_bits 12 = .ok (.iload_n 2, 1) := by decide +kernel
theorem dX8_bits_13 : decode cX8_bits 13 = .ok (.iconst 1, 1) := by decide +kernel
theorem dX8_bits_14 : decode cX8_bits 14 = .ok (.isub, 1) := by decide +kernel
theorem dX8_bits_15 : decode cX8_bits 15 = .ok (.iand, 1) := by decide +kernel
theorem dX8_bits_16 : decode cX8_bits 16 = .ok (.istore_n 2, 1) := by decide +kernel
theorem dX8_bits_17 : decode cX8_bits 17 = .ok (.goto (-13), 3) := by decide +kernel
theorem dX8_bits_20 : decode cX8_bits 20 = .ok (.iload_n 1, 1) := by decide +kernel
theorem dX8_bits_21 : decode cX8_bits 21 = .ok (.ireturn, 1) := by decide +kernel
theorem dX8_isJust_0 : decode cX8_isJust 0 = .ok (.aload_n 0, 1) := by decide +kernel
theorem dX8_isJust_1 : decode cX8_isJust 1 = .ok (.invokevirtual 265, 3) := by decide +kernel
theorem dX8_isJust_4 : decode cX8_isJust 4 = .ok (.iconst 0, 1) := by decide +kernel
theorem dX8_isJust_5 : decode cX8_isJust 5 = .ok (.istore_n 3, 1) := by decide +kernel
theorem dX8_isJust_6 : decode cX8_isJust 6 = .ok (.iload_n 3, 1) := by decide +kernel
theorem dX8_isJust_7 : decode cX8_isJust 7 = .ok (.aload_n 0, 1) := by decide +kernel
theorem dX8_isJust_8 : decode cX8_isJust 8 = .ok (.getfield 88, 3) := by decide +kernel
theorem dX8_isJust_11 : decode cX8_isJust 11 = .ok (.if_icmp .ge 45, 3) := by decide +kernel
theorem dX8_isJust_14 : decode cX8_isJust 14 = .ok (.aload_n 0, 1) := by decide +kernel
theorem dX8_isJust_15 : decode cX8_isJust 15 = .ok (.getfield 62, 3) := by decide +kernel
theorem dX8_isJust_18 : decode cX8_isJust 18 = .ok (.iload_n 3, 1) := by decide +kernel
theorem dX8_isJust_19 : decode cX8_isJust 19 = .ok (.iload_n 1, 1) := by decide +kernel
theorem dX8_isJust_20 : decode cX8_isJust 20 = .ok (.iload_n 3, 1) := by decide +kernel
theorem dX8_isJust_21 : decode cX8_isJust 21 = .ok (.ishr, 1) := by decide +kernel
theorem dX8_isJust_22 : decode cX8_isJust 22 = .ok (.iconst 1, 1) := by decide +kernel
theorem dX8_isJust_23 : decode cX8_isJust 23 = .ok (.iand, 1) := by decide +kernel
theorem dX8_isJust_24 : decode cX8_isJust 24 = .ok (.iconst 1, 1) := by decide +kernel
theorem dX8_isJust_25 : decode cX8_isJust 25 = .ok (.if_icmp .ne 18, 3) := by decide +kernel
theorem dX8_isJust_28 : decode cX8_isJust 28 = .ok (.aload_n 0, 1) := by decide +kernel
theorem dX8_isJust_29 : decode cX8_isJust 29 = .ok (.getfield 62, 3) := by decide +kernel
theorem dX8_isJust_32 : decode cX8_isJust 32 = .ok (.iload_n 3, 1) := by decide +kernel
theorem dX8_isJust_33 : decode cX8_isJust 33 = .ok (.iaload, 1) := by decide +kernel
theorem dX8_isJust_34 : decode cX8_isJust 34 = .ok (.bipush 20, 2) := by decide +kernel
theorem dX8_isJust_36 : decode cX8_isJust 36 = .ok (.iadd, 1) := by decide +kernel
theorem dX8_isJust_37 : decode cX8_isJust 37 = .ok (.invokestatic 279, 3) := by decide +kernel
theorem dX8_isJust_40 : decode cX8_isJust 40 = .ok (.goto 9, 3) := by decide +kernel
theorem dX8_isJust_43 : decode cX8_isJust 43 = .ok (.aload_n 0, 1) := by decide +kernel
theorem dX8_isJust_44 : decode cX8_isJust 44 = .ok (.getfield 62, 3) := by decide +kernel
theorem dX8_isJust_47 : decode cX8_isJust 47 = .ok (.iload_n 3, 1) := by decide +kernel
theorem dX8_isJust_48 : decode cX8_isJust 48 = .ok (.iaload, 1) := by decide +kernel
theorem dX8_isJust_49 : decode cX8_isJust 49 = .ok (.iastore, 1) := by decide +kernel
theorem dX8_isJust_50 : decode cX8_isJust 50 = .ok (.iinc 3 1, 3) := by decide +kernel
theorem dX8_isJust_53 : decode cX8_isJust 53 = .ok (.goto (-47), 3) := by decide +kernel
theorem dX8_isJust_56 : decode cX8_isJust 56 = .ok (.aload_n 0, 1) := by decide +kernel
theorem dX8_isJust_57 : decode cX8_isJust 57 = .ok (.invokevirtual 268, 3) := by decide +kernel
theorem dX8_isJust_60 : decode cX8_isJust 60 = .ok (.iload_n 2, 1) := by decide +kernel
theorem dX8_isJust_61 : decode cX8_isJust 61 = .ok (.if_icmp .ne 7, 3) := by decide +kernel
theorem dX8_isJust_64 : decode cX8_isJust 64 = .ok (.iconst 1, 1) := by decide +kernel
theorem dX8_isJust_65 : decode cX8_isJust 65 = .ok (.goto 4, 3) := by decide +kernel
theorem dX8_isJust_68 : decode cX8_isJust 68 = .ok (.iconst 0, 1) := by decide +kernel
theorem dX8_isJust_69 : decode cX8_isJust 69 = .ok (.istore_n 3, 1) := by decide +kernel
theorem dX8_isJust_70 : decode cX8_isJust 70 = .ok (.aload_n 0, 1) := by decide +kernel
theorem dX8_isJust_71 : decode cX8_isJust 71 = .ok (.invokevirtual 271, 3) := by decide +kernel
theorem dX8_isJust_74 : decode cX8_isJust 74 = .ok (.iload_n 3, 1) := by decide +kernel
theorem dX8_isJust_75 : decode cX8_isJust 75 = .ok (.ireturn, 1) := by decide +kernel
theorem dX8_warm_0 : decode cX8_warm 0 = .ok (.iload_n 1, 1) := by decide +kernel
theorem dX8_warm_1 : decode cX8_warm 1 = .ok (.i2l, 1) := by decide +kernel
theorem dX8_warm_2 : decode cX8_warm 2 = .ok (.lconst 0, 1) := by decide +kernel
theorem dX8_warm_3 : decode cX8_warm 3 = .ok (.ldc2_w 291, 3) := by decide +kernel
theorem dX8_warm_6 : decode cX8_warm 6 = .ok (.invokestatic 91, 3) := by decide +kernel
theorem dX8_warm_9 : decode cX8_warm 9 = .ok (.ifCond .ne 10, 3) := by decide +kernel
theorem dX8_warm_12 : decode cX8_warm 12 = .ok (.aload_n 0, 1) := by decide +kernel
theorem dX8_warm_13 : decode cX8_warm 13 = .ok (.bipush (-2), 2) := by decide +kernel
theorem dX8_warm_15 : decode cX8_warm 15 = .ok (.invokevirtual 101, 3) := by decide +kernel
theorem dX8_warm_18 : decode cX8_warm 18 = .ok (.ireturn, 1) := by decide +kernel
theorem dX8_warm_19 : decode cX8_warm 19 = .ok (.iconst (-1), 1) := by decide +kernel
theorem dX8_warm_20 : decode cX8_warm 20 = .ok (.istore_n 2, 1) := by decide +kernel
theorem dX8_warm_21 : decode cX8_warm 21 = .ok (.iconst 0, 1) := by decide +kernel
theorem dX8_warm_22 : decode cX8_warm 22 = .ok (.istore_n 3, 1) := by decide +kernel
theorem dX8_warm_23 : decode cX8_warm 23 = .ok (.iload_n 3, 1) := by decide +kernel
theorem dX8_warm_24 : decode cX8_warm 24 = .ok (.iconst 1, 1) := by decide +kernel
theorem dX8_warm_25 : decode cX8_warm 25 = .ok (.aload_n 0, 1) := by decide +kernel
theorem dX8_warm_26 : decode cX8_warm 26 = .ok (.getfield 88, 3) := by decide +kernel
theorem dX8_warm_29 : decode cX8_warm 29 = .ok (.ishl, 1) := by decide +kernel
theorem dX8_warm_30 : decode cX8_warm 30 = .ok (.if_icmp .ge 36, 3) := by decide +kernel
theorem dX8_warm_33 : decode cX8_warm 33 = .ok (.iload_n 2, 1) := by decide +kernel
theorem dX8_warm_34 : decode cX8_warm 34 = .ok (.iconst (-1), 1) := by decide +kernel
theorem dX8_warm_35 : decode cX8_warm 35 = .ok (.if_icmp .eq 14, 3) := by decide +kernel
theorem dX8_warm_38 : decode cX8_warm 38 = .ok (.iload_n 3, 1) := by decide +kernel
theorem dX8_warm_39 : decode cX8_warm 39 = .ok (.invokestatic 297, 3) := by decide +kernel
theorem dX8_warm_42 : decode cX8_warm 42 = .ok (.iload_n 2, 1) := by decide +kernel
theorem dX8_warm_43 : decode cX8_warm 43 = .ok (.invokestatic 297, 3) := by decide +kernel
theorem dX8_warm_46 : decode cX8_warm 46 = .ok (.if_icmp .ge 14, 3) := by decide +kernel
theorem dX8_warm_49 : decode cX8_warm 49 = .ok (.aload_n 0, 1) := by decide +kernel
theorem dX8_warm_50 : decode cX8_warm 50 = .ok (.iload_n 3, 1) := by decide +kernel
theorem dX8_warm_51 : decode cX8_warm 51 = .ok (.iload_n 1, 1) := by decide +kernel
theorem dX8_warm_52 : decode cX8_warm 52 = .ok (.invokevirtual 300, 3) := by decide +kernel
theorem dX8_warm_55 : decode cX8_warm 55 = .ok (.ifCond .eq 5, 3) := by decide +kernel
theorem dX8_warm_58 : decode cX8_warm 58 = .ok (.iload_n 3, 1) := by decide +kernel
theorem dX8_warm_59 : decode cX8_warm 59 = .ok (.istore_n 2, 1) := by decide +kernel
theorem dX8_warm_60 : decode cX8_warm 60 = .ok (.iinc 3 1, 3) := by decide +kernel
theorem dX8_warm_63 : decode cX8_warm 63 = .ok (.goto (-40), 3) := by decide +kernel
theorem dX8_warm_66 : decode cX8_warm 66 = .ok (.iload_n 2, 1) := by decide +kernel
theorem dX8_warm_67 : decode cX8_warm 67 = .ok (.ireturn, 1) := by decide +kernel
theorem dX8_whenWithout_0 : decode cX8_whenWithout 0 = .ok (.aload_n 0, 1) := by decide +kernel
theorem dX8_whenWithout_1 : decode cX8_whenWithout 1 = .ok (.invokevirtual 265, 3) := by decide +kernel
theorem dX8_whenWithout_4 : decode cX8_whenWithout 4 = .ok (.aload_n 0, 1) := by decide +kernel
theorem dX8_whenWithout_5 : decode cX8_whenWithout 5 = .ok (.iload_n 1, 1) := by decide +kernel
theorem dX8_whenWithout_6 : decode cX8_whenWithout 6 = .ok (.putfield 71, 3) := by decide +kernel
theorem dX8_whenWithout_9 : decode cX8_whenWithout 9 = .ok (.aload_n 0, 1) := by decide +kernel
theorem dX8_whenWithout_10 : decode cX8_whenWithout 10 = .ok (.invokevirtual 268, 3) := by decide +kernel
theorem dX8_whenWithout_13 : decode cX8_whenWithout 13 = .ok (.istore_n 2, 1) := by decide +kernel
theorem dX8_whenWithout_14 : decode cX8_whenWithout 14 = .ok (.aload_n 0, 1) := by decide +kernel
theorem dX8_whenWithout_15 : decode cX8_whenWithout 15 = .ok (.iconst (-1), 1) := by decide +kernel
theorem dX8_whenWithout_16 : decode cX8_whenWithout 16 = .ok (.putfield 71, 3) := by decide +kernel
theorem dX8_whenWithout_19 : decode cX8_whenWithout 19 = .ok (.aload_n 0, 1) := by decide +kernel
theorem dX8_whenWithout_20 : decode cX8_whenWithout 20 = .ok (.invokevirtual 271, 3) := by decide +kernel
theorem dX8_whenWithout_23 : decode cX8_whenWithout 23 = .ok (.iload_n 2, 1) := by decide +kernel
theorem dX8_whenWithout_24 : decode cX8_whenWithout 24 = .ok (.ireturn, 1) := by decide +kernel
theorem dX8_out_0 : decode cX8_out 0 = .ok (.iload_n 1, 1) := by decide +kernel
theorem dX8_out_1 : decode cX8_out 1 = .ok (.i2l, 1) := by decide +kernel
theorem dX8_out_2 : decode cX8_out 2 = .ok (.lconst 0, 1) := by decide +kernel
theorem dX8_out_3 : decode cX8_out 3 = .ok (.lconst 1, 1) := by decide +kernel
theorem dX8_out_4 : decode cX8_out 4 = .ok (.invokestatic 91, 3) := by decide +kernel
theorem dX8_out_7 : decode cX8_out 7 = .ok (.ifCond .ne 10, 3) := by decide +kernel
theorem dX8_out_10 : decode cX8_out 10 = .ok (.aload_n 0, 1) := by decide +kernel
theorem dX8_out_11 : decode cX8_out 11 = .ok (.bipush (-2), 2) := by decide +kernel
theorem dX8_out_13 : decode cX8_out 13 = .ok (.invokevirtual 101, 3) := by decide +kernel
theorem dX8_out_16 : decode cX8_out 16 = .ok (.ireturn, 1) := by decide +kernel
theorem dX8_out_17 : decode cX8_out 17 = .ok (.aload_n 0, 1) := by decide +kernel
theorem dX8_out_18 : decode cX8_out 18 = .ok (.getfield 88, 3) := by decide +kernel
theorem dX8_out_21 : decode cX8_out 21 = .ok (.ifCond .ne 10, 3) := by decide +kernel
theorem dX8_out_24 : decode cX8_out 24 = .ok (.aload_n 0, 1) := by decide +kernel
theorem dX8_out_25 : decode cX8_out 25 = .ok (.bipush (-5), 2) := by decide +kernel
theorem dX8_out_27 : decode cX8_out 27 = .ok (.invokevirtual 101, 3) := by decide +kernel
theorem dX8_out_30 : decode cX8_out 30 = .ok (.ireturn, 1) := by decide +kernel
theorem dX8_out_31 : decode cX8_out 31 = .ok (.iconst 0, 1) := by decide +kernel
theorem dX8_out_32 : decode cX8_out 32 = .ok (.istore_n 2, 1) := by decide +kernel
theorem dX8_out_33 : decode cX8_out 33 = .ok (.iconst 1, 1) := by decide +kernel
theorem dX8_out_34 : decode cX8_out 34 = .ok (.istore_n 3, 1) := by decide +kernel
theorem dX8_out_35 : decode cX8_out 35 = .ok (.iload_n 3, 1) := by decide +kernel
theorem dX8_out_36 : decode cX8_out 36 = .ok (.aload_n 0, 1) := by decide +kernel
theorem dX8_out_37 : decode cX8_out 37 = .ok (.getfield 88, 3) := by decide +kernel
theorem dX8_out_40 : decode cX8_out 40 = .ok (.if_icmp .ge 47, 3) := by decide +kernel
theorem dX8_out_43 : decode cX8_out 43 = .ok (.aload_n 0, 1) := by decide +kernel
theorem dX8_out_44 : decode cX8_out 44 = .ok (.iload_n 3, 1) := by decide +kernel
theorem dX8_out_45 : decode cX8_out 45 = .ok (.invokevirtual 303, 3) := by decide +kernel
theorem dX8_out_48 : decode cX8_out 48 = .ok (.aload_n 0, 1) := by decide +kernel
theorem dX8_out_49 : decode cX8_out 49 = .ok (.iload_n 2, 1) := by decide +kernel
theorem dX8_out_50 : decode cX8_out 50 = .ok (.invokevirtual 303, 3) := by decide +kernel
theorem dX8_out_53 : decode cX8_out 53 = .ok (.isub, 1) := by decide +kernel
theorem dX8_out_54 : decode cX8_out 54 = .ok (.istore 4, 2) := by decide +kernel
theorem dX8_out_56 : decode cX8_out 56 = .ok (.iload_n 1, 1) := by decide +kernel
theorem dX8_out_57 : decode cX8_out 57 = .ok (.ifCond .ne 8, 3) := by decide +kernel
theorem dX8_out_60 : decode cX8_out 60 = .ok (.iload 4, 2) := by decide +kernel
theorem dX8_out_62 : decode cX8_out 62 = .ok (.ifCond .gt 13, 3) := by decide +kernel
theorem dX8_out_65 : decode cX8_out 65 = .ok (.iload_n 1, 1) := by decide +kernel
theorem dX8_out_66 : decode cX8_out 66 = .ok (.iconst 1, 1) := by decide +kernel
theorem dX8_out_67 : decode cX8_out 67 = .ok (.if_icmp .ne 12, 3) := by decide +kernel
theorem dX8_out_70 : decode cX8_out 70 = .ok (.iload 4, 2) := by decide +kernel
theorem dX8_out_72 : decode cX8_out 72 = .ok (.ifCond .ge 7, 3) := by decide +kernel
theorem dX8_out_75 : decode cX8_out 75 = .ok (.iload_n 3, 1) := by decide +kernel
theorem dX8_out_76 : decode cX8_out 76 = .ok (.goto 4, 3) := by decide +kernel
theorem dX8_out_79 : decode cX8_out 79 = .ok (.iload_n 2, 1) := by decide +kernel
theorem dX8_out_80 : decode cX8_out 80 = .ok (.istore_n 2, 1) := by decide +kernel
theorem dX8_out_81 : decode cX8_out 81 = .ok (.iinc 3 1, 3) := by decide +kernel
theorem dX8_out_84 : decode cX8_out 84 = .ok (.goto (-49), 3) := by decide +kernel
theorem dX8_out_87 : decode cX8_out 87 = .ok (.iload_n 2, 1) := by decide +kernel
theorem dX8_out_88 : decode cX8_out 88 = .ok (.ireturn, 1) := by decide +kernel
theorem dX8_quiet_0 : decode cX8_quiet 0 = .ok (.iconst 0, 1) := by decide +kernel
theorem dX8_quiet_1 : decode cX8_quiet 1 = .ok (.istore_n 1, 1) := by decide +kernel
theorem dX8_quiet_2 : decode cX8_quiet 2 = .ok (.iconst 1, 1) := by decide +kernel
theorem dX8_quiet_3 : decode cX8_quiet 3 = .ok (.istore_n 2, 1) := by decide +kernel
theorem dX8_quiet_4 : decode cX8_quiet 4 = .ok (.iconst 0, 1) := by decide +kernel
theorem dX8_quiet_5 : decode cX8_quiet 5 = .ok (.istore_n 3, 1) := by decide +kernel
theorem dX8_quiet_6 : decode cX8_quiet 6 = .ok (.iload_n 3, 1) := by decide +kernel
theorem dX8_quiet_7 : decode cX8_quiet 7 = .ok (.aload_n 0, 1) := by decide +kernel
theorem dX8_quiet_8 : decode cX8_quiet 8 = .ok (.getfield 88, 3) := by decide +kernel
theorem dX8_quiet_11 : decode cX8_quiet 11 = .ok (.if_icmp .ge 85, 3) := by decide +kernel
theorem dX8_quiet_14 : decode cX8_quiet 14 = .ok (.aload_n 0, 1) := by decide +kernel
theorem dX8_quiet_15 : decode cX8_quiet 15 = .ok (.getfield 62, 3) := by decide +kernel
theorem dX8_quiet_18 : decode cX8_quiet 18 = .ok (.iload_n 3, 1) := by decide +kernel
theorem dX8_quiet_19 : decode cX8_quiet 19 = .ok (.iaload, 1) := by decide +kernel
theorem dX8_quiet_20 : decode cX8_quiet 20 = .ok (.istore 4, 2) := by decide +kernel
theorem dX8_quiet_22 : decode cX8_quiet 22 = .ok (.aload_n 0, 1) := by decide +kernel
theorem dX8_quiet_23 : decode cX8_quiet 23 = .ok (.getfield 62, 3) := by decide +kernel
theorem dX8_quiet_26 : decode cX8_quiet 26 = .ok (.iload_n 3, 1) := by decide +kernel
theorem dX8_quiet_27 : decode cX8_quiet 27 = .ok (.iaload, 1) := by decide +kernel
theorem dX8_quiet_28 : decode cX8_quiet 28 = .ok (.bipush 40, 2) := by decide +kernel
theorem dX8_quiet_30 : decode cX8_quiet 30 = .ok (.if_icmp .ge 24, 3) := by decide +kernel
theorem dX8_quiet_33 : decode cX8_quiet 33 = .ok (.aload_n 0, 1) := by decide +kernel
theorem dX8_quiet_34 : decode cX8_quiet 34 = .ok (.iload_n 3, 1) := by decide +kernel
theorem dX8_quiet_35 : decode cX8_quiet 35 = .ok (.invokevirtual 239, 3) := by decide +kernel
theorem dX8_quiet_38 : decode cX8_quiet 38 = .ok (.ifCond .eq 16, 3) := by decide +kernel
theorem dX8_quiet_41 : decode cX8_quiet 41 = .ok (.aload_n 0, 1) := by decide +kernel
theorem dX8_quiet_42 : decode cX8_quiet 42 = .ok (.getfield 62, 3) := by decide +kernel
theorem dX8_quiet_45 : decode cX8_quiet 45 = .ok (.iload_n 3, 1) := by decide +kernel
theorem dX8_quiet_46 : decode cX8_quiet 46 = .ok (.dup2, 1) := by decide +kernel
theorem dX8_quiet_47 : decode cX8_quiet 47 = .ok (.iaload, 1) := by decide +kernel
theorem dX8_quiet_48 : decode cX8_quiet 48 = .ok (.iconst 1, 1) := by decide +kernel
theorem dX8_quiet_49 : decode cX8_quiet 49 = .ok (.iadd, 1) := by decide +kernel
theorem dX8_quiet_50 : decode cX8_quiet 50 = .ok (.iastore, 1) := by decide +kernel
theorem dX8_quiet_51 : decode cX8_quiet 51 = .ok (.goto (-29), 3) := by decide +kernel
theorem dX8_quiet_54 : decode cX8_quiet 54 = .ok (.iload_n 2, 1) := by decide +kernel
theorem dX8_quiet_55 : decode cX8_quiet 55 = .ok (.aload_n 0, 1) := by decide +kernel
theorem dX8_quiet_56 : decode cX8_quiet 56 = .ok (.iload_n 3, 1) := by decide +kernel
theorem dX8_quiet_57 : decode cX8_quiet 57 = .ok (.invokevirtual 239, 3) := by decide +kernel
theorem dX8_quiet_60 : decode cX8_quiet 60 = .ok (.ifCond .ne 7, 3) := by decide +kernel
theorem dX8_quiet_63 : decode cX8_quiet 63 = .ok (.iconst 1, 1) := by decide +kernel
theorem dX8_quiet_64 : decode cX8_quiet 64 = .ok (.goto 4, 3) := by decide +kernel
theorem dX8_quiet_67 : decode cX8_quiet 67 = .ok (.iconst 0, 1) := by decide +kernel
theorem dX8_quiet_68 : decode cX8_quiet 68 = .ok (.iand, 1) := by decide +kernel
theorem dX8_quiet_69 : decode cX8_quiet 69 = .ok (.istore_n 2, 1) := by decide +kernel
theorem dX8_quiet_70 : decode cX8_quiet 70 = .ok (.iload_n 1, 1) := by decide +kernel
theorem dX8_quiet_71 : decode cX8_quiet 71 = .ok (.aload_n 0, 1) := by decide +kernel
theorem dX8_quiet_72 : decode cX8_quiet 72 = .ok (.getfield 62, 3) := by decide +kernel
theorem dX8_quiet_75 : decode cX8_quiet 75 = .ok (.iload_n 3, 1) := by decide +kernel
theorem dX8_quiet_76 : decode cX8_quiet 76 = .ok (.iaload, 1) := by decide +kernel
theorem dX8_quiet_77 : decode cX8_quiet 77 = .ok (.iload 4, 2) := by decide +kernel
theorem dX8_quiet_79 : decode cX8_quiet 79 = .ok (.isub, 1) := by decide +kernel
theorem dX8_quiet_80 : decode cX8_quiet 80 = .ok (.iadd, 1) := by decide +kernel
theorem dX8_quiet_81 : decode cX8_quiet 81 = .ok (.istore_n 1, 1) := by decide +kernel
theorem dX8_quiet_82 : decode cX8_quiet 82 = .ok (.aload_n 0, 1) := by decide +kernel
theorem dX8_quiet_83 : decode cX8_quiet 83 = .ok (.getfield 62, 3) := by decide +kernel
theorem dX8_quiet_86 : decode cX8_quiet 86 = .ok (.iload_n 3, 1) := by decide +kernel
theorem dX8_quiet_87 : decode cX8_quiet 87 = .ok (.iload 4, 2) := by decide +kernel
theorem dX8_quiet_89 : decode cX8_quiet 89 = .ok (.iastore, 1) := by decide +kernel
theorem dX8_quiet_90 : decode cX8_quiet 90 = .ok (.iinc 3 1, 3) := by decide +kernel
theorem dX8_quiet_93 : decode cX8_quiet 93 = .ok (.goto (-87), 3) := by decide +kernel
theorem dX8_quiet_96 : decode cX8_quiet 96 = .ok (.iload_n 2, 1) := by decide +kernel
theorem dX8_quiet_97 : decode cX8_quiet 97 = .ok (.ifCond .eq 7, 3) := by decide +kernel
theorem dX8_quiet_100 : decode cX8_quiet 100 = .ok (.iload_n 1, 1) := by decide +kernel
theorem dX8_quiet_101 : decode cX8_quiet 101 = .ok (.goto 4, 3) := by decide +kernel
theorem dX8_quiet_104 : decode cX8_quiet 104 = .ok (.iconst (-1), 1) := by decide +kernel
theorem dX8_quiet_105 : decode cX8_quiet 105 = .ok (.ireturn, 1) := by decide +kernel
theorem dX8_gap_0 : decode cX8_gap 0 = .ok (.aload_n 0, 1) := by decide +kernel
theorem dX8_gap_1 : decode cX8_gap 1 = .ok (.iload_n 1, 1) := by decide +kernel
theorem dX8_gap_2 : decode cX8_gap 2 = .ok (.i2l, 1) := by decide +kernel
theorem dX8_gap_3 : decode cX8_gap 3 = .ok (.invokevirtual 112, 3) := by decide +kernel
theorem dX8_gap_6 : decode cX8_gap 6 = .ok (.ifCond .ne 10, 3) := by decide +kernel
theorem dX8_gap_9 : decode cX8_gap 9 = .ok (.aload_n 0, 1) := by decide +kernel
theorem dX8_gap_10 : decode cX8_gap 10 = .ok (.bipush (-2), 2) := by decide +kernel
theorem dX8_gap_12 : decode cX8_gap 12 = .ok (.invokevirtual 101, 3) := by decide +kernel
theorem dX8_gap_15 : decode cX8_gap 15 = .ok (.ireturn, 1) := by decide +kernel
theorem dX8_gap_16 : decode cX8_gap 16 = .ok (.aload_n 0, 1) := by decide +kernel
theorem dX8_gap_17 : decode cX8_gap 17 = .ok (.getfield 62, 3) := by decide +kernel
theorem dX8_gap_20 : decode cX8_gap 20 = .ok (.iload_n 1, 1) := by decide +kernel
theorem dX8_gap_21 : decode cX8_gap 21 = .ok (.iaload, 1) := by decide +kernel
theorem dX8_gap_22 : decode cX8_gap 22 = .ok (.istore_n 2, 1) := by decide +kernel
theorem dX8_gap_23 : decode cX8_gap 23 = .ok (.aload_n 0, 1) := by decide +kernel
theorem dX8_gap_24 : decode cX8_gap 24 = .ok (.getfield 62, 3) := by decide +kernel
theorem dX8_gap_27 : decode cX8_gap 27 = .ok (.iload_n 1, 1) := by decide +kernel
theorem dX8_gap_28 : decode cX8_gap 28 = .ok (.iaload, 1) := by decide +kernel
theorem dX8_gap_29 : decode cX8_gap 29 = .ok (.bipush 40, 2) := by decide +kernel
theorem dX8_gap_31 : decode cX8_gap 31 = .ok (.if_icmp .ge 24, 3) := by decide +kernel
theorem dX8_gap_34 : decode cX8_gap 34 = .ok (.aload_n 0, 1) := by decide +kernel
theorem dX8_gap_35 : decode cX8_gap 35 = .ok (.invokevirtual 236, 3) := by decide +kernel
theorem dX8_gap_38 : decode cX8_gap 38 = .ok (.iload_n 1, 1) := by decide +kernel
theorem dX8_gap_39 : decode cX8_gap 39 = .ok (.if_icmp .ne 16, 3) := by decide +kernel
theorem dX8_gap_42 : decode cX8_gap 42 = .ok (.aload_n 0, 1) := by decide +kernel
theorem dX8_gap_43 : decode cX8_gap 43 = .ok (.getfield 62, 3) := by decide +kernel
theorem dX8_gap_46 : decode cX8_gap 46 = .ok (.iload_n 1, 1) := by decide +kernel
theorem dX8_gap_47 : decode cX8_gap 47 = .ok (.dup2, 1) := by decide +kernel
theorem dX8_gap_48 : decode cX8_gap 48 = .ok (.iaload, 1) := by decide +kernel
theorem dX8_gap_49 : decode cX8_gap 49 = .ok (.iconst 1, 1) := by decide +kernel
theorem dX8_gap_50 : decode cX8_gap 50 = .ok (.iadd, 1) := by decide +kernel
theorem dX8_gap_51 : decode cX8_gap 51 = .ok (.iastore, 1) := by decide +kernel
theorem dX8_gap_52 : decode cX8_gap 52 = .ok (.goto (-29), 3) := by decide +kernel
theorem dX8_gap_55 : decode cX8_gap 55 = .ok (.aload_n 0, 1) := by decide +kernel
theorem dX8_gap_56 : decode cX8_gap 56 = .ok (.invokevirtual 236, 3) := by decide +kernel
theorem dX8_gap_59 : decode cX8_gap 59 = .ok (.iload_n 1, 1) := by decide +kernel
theorem dX8_gap_60 : decode cX8_gap 60 = .ok (.if_icmp .ne 7, 3) := by decide +kernel
theorem dX8_gap_63 : decode cX8_gap 63 = .ok (.iconst (-1), 1) := by decide +kernel
theorem dX8_gap_64 : decode cX8_gap 64 = .ok (.goto 11, 3) := by decide +kernel
theorem dX8_gap_67 : decode cX8_gap 67 = .ok (.aload_n 0, 1) := by decide +kernel
theorem dX8_gap_68 : decode cX8_gap 68 = .ok (.getfield 62, 3) := by decide +kernel
theorem dX8_gap_71 : decode cX8_gap 71 = .ok (.iload_n 1, 1) := by decide +kernel
theorem dX8_gap_72 : decode cX8_gap 72 = .ok (.iaload, 1) := by decide +kernel
theorem dX8_gap_73 : decode cX8_gap 73 = .ok (.iload_n 2, 1) := by decide +kernel
theorem dX8_gap_74 : decode cX8_gap 74 = .ok (.isub, 1) := by decide +kernel
theorem dX8_gap_75 : decode cX8_gap 75 = .ok (.istore_n 3, 1) := by decide +kernel
theorem dX8_gap_76 : decode cX8_gap 76 = .ok (.aload_n 0, 1) := by decide +kernel
theorem dX8_gap_77 : decode cX8_gap 77 = .ok (.getfield 62, 3) := by decide +kernel
theorem dX8_gap_80 : decode cX8_gap 80 = .ok (.iload_n 1, 1) := by decide +kernel
theorem dX8_gap_81 : decode cX8_gap 81 = .ok (.iload_n 2, 1) := by decide +kernel
theorem dX8_gap_82 : decode cX8_gap 82 = .ok (.iastore, 1) := by decide +kernel
theorem dX8_gap_83 : decode cX8_gap 83 = .ok (.iload_n 3, 1) := by decide +kernel
theorem dX8_gap_84 : decode cX8_gap 84 = .ok (.ireturn, 1) := by decide +kernel
theorem dX8_airs_0 : decode cX8_airs 0 = .ok (.aload_n 0, 1) := by decide +kernel
theorem dX8_airs_1 : decode cX8_airs 1 = .ok (.iload_n 1, 1) := by decide +kernel
theorem dX8_airs_2 : decode cX8_airs 2 = .ok (.i2l, 1) := by decide +kernel
theorem dX8_airs_3 : decode cX8_airs 3 = .ok (.invokevirtual 112, 3) := by decide +kernel
theorem dX8_airs_6 : decode cX8_airs 6 = .ok (.ifCond .eq 13, 3) := by decide +kernel
theorem dX8_airs_9 : decode cX8_airs 9 = .ok (.iload_n 2, 1) := by decide +kernel
theorem dX8_airs_10 : decode cX8_airs 10 = .ok (.i2l, 1) := by decide +kernel
theorem dX8_airs_11 : decode cX8_airs 11 = .ok (.lconst 0, 1) := by decide +kernel
theorem dX8_airs_12 : decode cX8_airs 12 = .ok (.lconst 1, 1) := by decide +kernel
theorem dX8_airs_13 : decode cX8_airs 13 = .ok (.invokestatic 91, 3) := by decide +kernel
theorem dX8_airs_16 : decode cX8_airs 16 = .ok (.ifCond .ne 10, 3) := by decide +kernel
theorem dX8_airs_19 : decode cX8_airs 19 = .ok (.aload_n 0, 1) := by decide +kernel
theorem dX8_airs_20 : decode cX8_airs 20 = .ok (.bipush (-2), 2) := by decide +kernel
theorem dX8_airs_22 : decode cX8_airs 22 = .ok (.invokevirtual 101, 3) := by decide +kernel
theorem dX8_airs_25 : decode cX8_airs 25 = .ok (.ireturn, 1) := by decide +kernel
theorem dX8_airs_26 : decode cX8_airs 26 = .ok (.aload_n 0, 1) := by decide +kernel
theorem dX8_airs_27 : decode cX8_airs 27 = .ok (.getfield 37, 3) := by decide +kernel
theorem dX8_airs_30 : decode cX8_airs 30 = .ok (.istore_n 3, 1) := by decide +kernel
theorem dX8_airs_31 : decode cX8_airs 31 = .ok (.iconst 0, 1) := by decide +kernel
theorem dX8_airs_32 : decode cX8_airs 32 = .ok (.istore 4, 2) := by decide +kernel
theorem dX8_airs_34 : decode cX8_airs 34 = .ok (.iconst (-1), 1) := by decide +kernel
theorem dX8_airs_35 : decode cX8_airs 35 = .ok (.istore 5, 2) := by decide +kernel
theorem dX8_airs_37 : decode cX8_airs 37 = .ok (.aload_n 0, 1) := by decide +kernel
theorem dX8_airs_38 : decode cX8_airs 38 = .ok (.iconst 0, 1) := by decide +kernel
theorem dX8_airs_39 : decode cX8_airs 39 = .ok (.putfield 37, 3) := by decide +kernel
theorem dX8_airs_42 : decode cX8_airs 42 = .ok (.aload_n 0, 1) := by decide +kernel
theorem dX8_airs_43 : decode cX8_airs 43 = .ok (.getfield 37, 3) := by decide +kernel
theorem dX8_airs_46 : decode cX8_airs 46 = .ok (.bipush 40, 2) := by decide +kernel
theorem dX8_airs_48 : decode cX8_airs 48 = .ok (.if_icmp .gt 62, 3) := by decide +kernel
theorem dX8_airs_51 : decode cX8_airs 51 = .ok (.aload_n 0, 1) := by decide +kernel
theorem dX8_airs_52 : decode cX8_airs 52 = .ok (.invokevirtual 236, 3) := by decide +kernel
theorem dX8_airs_55 : decode cX8_airs 55 = .ok (.iload_n 1, 1) := by decide +kernel
theorem dX8_airs_56 : decode cX8_airs 56 = .ok (.if_icmp .ne 7, 3) := by decide +kernel
theorem dX8_airs_59 : decode cX8_airs 59 = .ok (.iconst 1, 1) := by decide +kernel
theorem dX8_airs_60 : decode cX8_airs 60 = .ok (.goto 4, 3) := by decide +kernel
theorem dX8_airs_63 : decode cX8_airs 63 = .ok (.iconst 0, 1) := by decide +kernel
theorem dX8_airs_64 : decode cX8_airs 64 = .ok (.istore 6, 2) := by decide +kernel
theorem dX8_airs_66 : decode cX8_airs 66 = .ok (.iload 4, 2) := by decide +kernel
theorem dX8_airs_68 : decode cX8_airs 68 = .ok (.iload 6, 2) := by decide +kernel
theorem dX8_airs_70 : decode cX8_airs 70 = .ok (.ifCond .eq 7, 3) := by decide +kernel
theorem dX8_airs_73 : decode cX8_airs 73 = .ok (.iconst 1, 1) := by decide +kernel
theorem dX8_airs_74 : decode cX8_airs 74 = .ok (.goto 4, 3) := by decide +kernel
theorem dX8_airs_77 : decode cX8_airs 77 = .ok (.iconst 0, 1) := by decide +kernel
theorem dX8_airs_78 : decode cX8_airs 78 = .ok (.iadd, 1) := by decide +kernel
theorem dX8_airs_79 : decode cX8_airs 79 = .ok (.istore 4, 2) := by decide +kernel
theorem dX8_airs_81 : decode cX8_airs 81 = .ok (.iload 6, 2) := by decide +kernel
theorem dX8_airs_83 : decode cX8_airs 83 = .ok (.ifCond .eq 10, 3) := by decide +kernel
theorem dX8_airs_86 : decode cX8_airs 86 = .ok (.aload_n 0, 1) := by decide +kernel
theorem dX8_airs_87 : decode cX8_airs 87 = .ok (.getfield 37, 3) := by decide +kernel
theorem dX8_airs_90 : decode cX8_airs 90 = .ok (.goto 5, 3) := by decide +kernel
theorem dX8_airs_93 : decode cX8_airs 93 = .ok (.iload 5, 2) := by decide +kernel
theorem dX8_airs_95 : decode cX8_airs 95 = .ok (.istore 5, 2) := by decide +kernel
theorem dX8_airs_97 : decode cX8_airs 97 = .ok (.aload_n 0, 1) := by decide +kernel
theorem dX8_airs_98 : decode cX8_airs 98 = .ok (.dup, 1) := by decide +kernel
theorem dX8_airs_99 : decode cX8_airs 99 = .ok (.getfield 37, 3) := by decide +kernel
theorem dX8_airs_102 : decode cX8_airs 102 = .ok (.iconst 1, 1) := by decide +kernel
theorem dX8_airs_103 : decode cX8_airs 103 = .ok (.iadd, 1) := by decide +kernel
theorem dX8_airs_104 : decode cX8_airs 104 = .ok (.putfield 37, 3) := by decide +kernel
theorem dX8_airs_107 : decode cX8_airs 107 = .ok (.goto (-65), 3) := by decide +kernel
theorem dX8_airs_110 : decode cX8_airs 110 = .ok (.aload_n 0, 1) := by decide +kernel
theorem dX8_airs_111 : decode cX8_airs 111 = .ok (.iload_n 3, 1) := by decide +kernel
theorem dX8_airs_112 : decode cX8_airs 112 = .ok (.putfield 37, 3) := by decide +kernel
theorem dX8_airs_115 : decode cX8_airs 115 = .ok (.iload_n 2, 1) := by decide +kernel
theorem dX8_airs_116 : decode cX8_airs 116 = .ok (.ifCond .ne 8, 3) := by decide +kernel
theorem dX8_airs_119 : decode cX8_airs 119 = .ok (.iload 4, 2) := by decide +kernel
theorem dX8_airs_121 : decode cX8_airs 121 = .ok (.goto 5, 3) := by decide +kernel
theorem dX8_airs_124 : decode cX8_airs 124 = .ok (.iload 5, 2) := by decide +kernel
theorem dX8_airs_126 : decode cX8_airs 126 = .ok (.ireturn, 1) := by decide +kernel
theorem dX8_warmest_0 : decode cX8_warmest 0 = .ok (.aload_n 0, 1) := by decide +kernel
theorem dX8_warmest_1 : decode cX8_warmest 1 = .ok (.getfield 37, 3) := by decide +kernel
theorem dX8_warmest_4 : decode cX8_warmest 4 = .ok (.istore_n 1, 1) := by decide +kernel
theorem dX8_warmest_5 : decode cX8_warmest 5 = .ok (.iconst (-1), 1) := by decide +kernel
theorem dX8_warmest_6 : decode cX8_warmest 6 = .ok (.istore_n 2, 1) := by decide +kernel
theorem dX8_warmest_7 : decode cX8_warmest 7 = .ok (.aload_n 0, 1) := by decide +kernel
theorem dX8_warmest_8 : decode cX8_warmest 8 = .ok (.iconst 0, 1) := by decide +kernel
theorem dX8_warmest_9 : decode cX8_warmest 9 = .ok (.putfield 37, 3) := by decide +kernel
theorem dX8_warmest_12 : decode cX8_warmest 12 = .ok (.aload_n 0, 1) := by decide +kernel
theorem dX8_warmest_13 : decode cX8_warmest 13 = .ok (.getfield 37, 3) := by decide +kernel
theorem dX8_warmest_16 : decode cX8_warmest 16 = .ok (.bipush 40, 2) := by decide +kernel
theorem dX8_warmest_18 : decode cX8_warmest 18 = .ok (.if_icmp .gt 32, 3) := by decide +kernel
theorem dX8_warmest_21 : decode cX8_warmest 21 = .ok (.aload_n 0, 1) := by decide +kernel
theorem dX8_warmest_22 : decode cX8_warmest 22 = .ok (.invokevirtual 244, 3) := by decide +kernel
theorem dX8_warmest_25 : decode cX8_warmest 25 = .ok (.ifCond .eq 10, 3) := by decide +kernel
theorem dX8_warmest_28 : decode cX8_warmest 28 = .ok (.aload_n 0, 1) := by decide +kernel
theorem dX8_warmest_29 : decode cX8_warmest 29 = .ok (.getfield 37, 3) := by decide +kernel
theorem dX8_warmest_32 : decode cX8_warmest 32 = .ok (.goto 4, 3) := by decide +kernel
theorem dX8_warmest_35 : decode cX8_warmest 35 = .ok (.iload_n 2, 1) := by decide +kernel
theorem dX8_warmest_36 : decode cX8_warmest 36 = .ok (.istore_n 2, 1) := by decide +kernel
theorem dX8_warmest_37 : decode cX8_warmest 37 = .ok (.aload_n 0, 1) := by decide +kernel
theorem dX8_warmest_38 : decode cX8_warmest 38 = .ok (.dup, 1) := by decide +kernel
theorem dX8_warmest_39 : decode cX8_warmest 39 = .ok (.getfield 37, 3) := by decide +kernel
theorem dX8_warmest_42 : decode cX8_warmest 42 = .ok (.iconst 1, 1) := by decide +kernel
theorem dX8_warmest_43 : decode cX8_warmest 43 = .ok (.iadd, 1) := by decide +kernel
theorem dX8_warmest_44 : decode cX8_warmest 44 = .ok (.putfield 37, 3) := by decide +kernel
theorem dX8_warmest_47 : decode cX8_warmest 47 = .ok (.goto (-35), 3) := by decide +kernel
theorem dX8_warmest_50 : decode cX8_warmest 50 = .ok (.aload_n 0, 1) := by decide +kernel
theorem dX8_warmest_51 : decode cX8_warmest 51 = .ok (.iload_n 1, 1) := by decide +kernel
theorem dX8_warmest_52 : decode cX8_warmest 52 = .ok (.putfield 37, 3) := by decide +kernel
theorem dX8_warmest_55 : decode cX8_warmest 55 = .ok (.iload_n 2, 1) := by decide +kernel
theorem dX8_warmest_56 : decode cX8_warmest 56 = .ok (.ireturn, 1) := by decide +kernel
theorem dX8_bites_0 : decode cX8_bites 0 = .ok (.aload_n 0, 1) := by decide +kernel
theorem dX8_bites_1 : decode cX8_bites 1 = .ok (.iload_n 1, 1) := by decide +kernel
theorem dX8_bites_2 : decode cX8_bites 2 = .ok (.i2l, 1) := by decide +kernel
theorem dX8_bites_3 : decode cX8_bites 3 = .ok (.invokevirtual 112, 3) := by decide +kernel
theorem dX8_bites_6 : decode cX8_bites 6 = .ok (.ifCond .ne 10, 3) := by decide +kernel
theorem dX8_bites_9 : decode cX8_bites 9 = .ok (.aload_n 0, 1) := by decide +kernel
theorem dX8_bites_10 : decode cX8_bites 10 = .ok (.bipush (-2), 2) := by decide +kernel
theorem dX8_bites_12 : decode cX8_bites 12 = .ok (.invokevirtual 101, 3) := by decide +kernel
theorem dX8_bites_15 : decode cX8_bites 15 = .ok (.ireturn, 1) := by decide +kernel
theorem dX8_bites_16 : decode cX8_bites 16 = .ok (.aload_n 0, 1) := by decide +kernel
theorem dX8_bites_17 : decode cX8_bites 17 = .ok (.getfield 37, 3) := by decide +kernel
theorem dX8_bites_20 : decode cX8_bites 20 = .ok (.istore_n 2, 1) := by decide +kernel
theorem dX8_bites_21 : decode cX8_bites 21 = .ok (.iconst (-1), 1) := by decide +kernel
theorem dX8_bites_22 : decode cX8_bites 22 = .ok (.istore_n 3, 1) := by decide +kernel
theorem dX8_bites_23 : decode cX8_bites 23 = .ok (.aload_n 0, 1) := by decide +kernel
theorem dX8_bites_24 : decode cX8_bites 24 = .ok (.iconst 0, 1) := by decide +kernel
theorem dX8_bites_25 : decode cX8_bites 25 = .ok (.putfield 37, 3) := by decide +kernel
theorem dX8_bites_28 : decode cX8_bites 28 = .ok (.aload_n 0, 1) := by decide +kernel
theorem dX8_bites_29 : decode cX8_bites 29 = .ok (.getfield 37, 3) := by decide +kernel
theorem dX8_bites_32 : decode cX8_bites 32 = .ok (.bipush 40, 2) := by decide +kernel
theorem dX8_bites_34 : decode cX8_bites 34 = .ok (.if_icmp .gt 33, 3) := by decide +kernel
theorem dX8_bites_37 : decode cX8_bites 37 = .ok (.aload_n 0, 1) := by decide +kernel
theorem dX8_bites_38 : decode cX8_bites 38 = .ok (.iload_n 1, 1) := by decide +kernel
theorem dX8_bites_39 : decode cX8_bites 39 = .ok (.invokevirtual 239, 3) := by decide +kernel
theorem dX8_bites_42 : decode cX8_bites 42 = .ok (.ifCond .eq 10, 3) := by decide +kernel
theorem dX8_bites_45 : decode cX8_bites 45 = .ok (.aload_n 0, 1) := by decide +kernel
theorem dX8_bites_46 : decode cX8_bites 46 = .ok (.getfield 37, 3) := by decide +kernel
theorem dX8_bites_49 : decode cX8_bites 49 = .ok (.goto 4, 3) := by decide +kernel
theorem dX8_bites_52 : decode cX8_bites 52 = .ok (.iload_n 3, 1) := by decide +kernel
theorem dX8_bites_53 : decode cX8_bites 53 = .ok (.istore_n 3, 1) := by decide +kernel
theorem dX8_bites_54 : decode cX8_bites 54 = .ok (.aload_n 0, 1) := by decide +kernel
theorem dX8_bites_55 : decode cX8_bites 55 = .ok (.dup, 1) := by decide +kernel
theorem dX8_bites_56 : decode cX8_bites 56 = .ok (.getfield 37, 3) := by decide +kernel
theorem dX8_bites_59 : decode cX8_bites 59 = .ok (.iconst 1, 1) := by decide +kernel
theorem dX8_bites_60 : decode cX8_bites 60 = .ok (.iadd, 1) := by decide +kernel
theorem dX8_bites_61 : decode cX8_bites 61 = .ok (.putfield 37, 3) := by decide +kernel
theorem dX8_bites_64 : decode cX8_bites 64 = .ok (.goto (-36), 3) := by decide +kernel
theorem dX8_bites_67 : decode cX8_bites 67 = .ok (.aload_n 0, 1) := by decide +kernel
theorem dX8_bites_68 : decode cX8_bites 68 = .ok (.iload_n 2, 1) := by decide +kernel
theorem dX8_bites_69 : decode cX8_bites 69 = .ok (.putfield 37, 3) := by decide +kernel
theorem dX8_bites_72 : decode cX8_bites 72 = .ok (.iload_n 3, 1) := by decide +kernel
theorem dX8_bites_73 : decode cX8_bites 73 = .ok (.ireturn, 1) := by decide +kernel
theorem dX8_brandyFor_0 : decode cX8_brandyFor 0 = .ok (.aload_n 0, 1) := by decide +kernel
theorem dX8_brandyFor_1 : decode cX8_brandyFor 1 = .ok (.iload_n 1, 1) := by decide +kernel
theorem dX8_brandyFor_2 : decode cX8_brandyFor 2 = .ok (.i2l, 1) := by decide +kernel
theorem dX8_brandyFor_3 : decode cX8_brandyFor 3 = .ok (.invokevirtual 112, 3) := by decide +kernel
theorem dX8_brandyFor_6 : decode cX8_brandyFor 6 = .ok (.ifCond .ne 10, 3) := by decide +kernel
theorem dX8_brandyFor_9 : decode cX8_brandyFor 9 = .ok (.aload_n 0, 1) := by decide +kernel
theorem dX8_brandyFor_10 : decode cX8_brandyFor 10 = .ok (.bipush (-2), 2) := by decide +kernel
theorem dX8_brandyFor_12 : decode cX8_brandyFor 12 = .ok (.invokevirtual 101, 3) := by decide +kernel
theorem dX8_brandyFor_15 : decode cX8_brandyFor 15 = .ok (.ireturn, 1) := by decide +kernel
theorem dX8_brandyFor_16 : decode cX8_brandyFor 16 = .ok (.aload_n 0, 1) := by decide +kernel
theorem dX8_brandyFor_17 : decode cX8_brandyFor 17 = .ok (.getfield 59, 3) := by decide +kernel
theorem dX8_brandyFor_20 : decode cX8_brandyFor 20 = .ok (.iload_n 1, 1) := by decide +kernel
theorem dX8_brandyFor_21 : decode cX8_brandyFor 21 = .ok (.iaload, 1) := by decide +kernel
theorem dX8_brandyFor_22 : decode cX8_brandyFor 22 = .ok (.istore_n 2, 1) := by decide +kernel
theorem dX8_brandyFor_23 : decode cX8_brandyFor 23 = .ok (.iconst (-1), 1) := by decide +kernel
theorem dX8_brandyFor_24 : decode cX8_brandyFor 24 = .ok (.istore_n 3, 1) := by decide +kernel
theorem dX8_brandyFor_25 : decode cX8_brandyFor 25 = .ok (.bipush 9, 2) := by decide +kernel
theorem dX8_brandyFor_27 : decode cX8_brandyFor 27 = .ok (.istore 4, 2) := by decide +kernel
theorem dX8_brandyFor_29 : decode cX8_brandyFor 29 = .ok (.iload 4, 2) := by decide +kernel
theorem dX8_brandyFor_31 : decode cX8_brandyFor 31 = .ok (.ifCond .lt 31, 3) := by decide +kernel
theorem dX8_brandyFor_34 : decode cX8_brandyFor 34 = .ok (.aload_n 0, 1) := by decide +kernel
theorem dX8_brandyFor_35 : decode cX8_brandyFor 35 = .ok (.getfield 59, 3) := by decide +kernel
theorem dX8_brandyFor_38 : decode cX8_brandyFor 38 = .ok (.iload_n 1, 1) := by decide +kernel
theorem dX8_brandyFor_39 : decode cX8_brandyFor 39 = .ok (.iload 4, 2) := by decide +kernel
theorem dX8_brandyFor_41 : decode cX8_brandyFor 41 = .ok (.iastore, 1) := by decide +kernel
theorem dX8_brandyFor_42 : decode cX8_brandyFor 42 = .ok (.aload_n 0, 1) := by decide +kernel
theorem dX8_brandyFor_43 : decode cX8_brandyFor 43 = .ok (.invokevirtual 244, 3) := by decide +kernel
theorem dX8_brandyFor_46 : decode cX8_brandyFor 46 = .ok (.ifCond .eq 7, 3) := by decide +kernel
theorem dX8_brandyFor_49 : decode cX8_brandyFor 49 = .ok (.iload_n 3, 1) := by decide +kernel
theorem dX8_brandyFor_50 : decode cX8_brandyFor 50 = .ok (.goto 5, 3) := by decide +kernel
theorem dX8_brandyFor_53 : decode cX8_brandyFor 53 = .ok (.iload 4, 2) := by decide +kernel
theorem dX8_brandyFor_55 : decode cX8_brandyFor 55 = .ok (.istore_n 3, 1) := by decide +kernel
theorem dX8_brandyFor_56 : decode cX8_brandyFor 56 = .ok (.iinc 4 (-1), 3) := by decide +kernel
theorem dX8_brandyFor_59 : decode cX8_brandyFor 59 = .ok (.goto (-30), 3) := by decide +kernel
theorem dX8_brandyFor_62 : decode cX8_brandyFor 62 = .ok (.aload_n 0, 1) := by decide +kernel
theorem dX8_brandyFor_63 : decode cX8_brandyFor 63 = .ok (.getfield 59, 3) := by decide +kernel
theorem dX8_brandyFor_66 : decode cX8_brandyFor 66 = .ok (.iload_n 1, 1) := by decide +kernel
theorem dX8_brandyFor_67 : decode cX8_brandyFor 67 = .ok (.iload_n 2, 1) := by decide +kernel
theorem dX8_brandyFor_68 : decode cX8_brandyFor 68 = .ok (.iastore, 1) := by decide +kernel
theorem dX8_brandyFor_69 : decode cX8_brandyFor 69 = .ok (.iload_n 3, 1) := by decide +kernel
theorem dX8_brandyFor_70 : decode cX8_brandyFor 70 = .ok (.ireturn, 1) := by decide +kernel
theorem dX8_fallFor_0 : decode cX8_fallFor 0 = .ok (.iload_n 1, 1) := by decide +kernel
theorem dX8_fallFor_1 : decode cX8_fallFor 1 = .ok (.i2l, 1) := by decide +kernel
theorem dX8_fallFor_2 : decode cX8_fallFor 2 = .ok (.lconst 0, 1) := by decide +kernel
theorem dX8_fallFor_3 : decode cX8_fallFor 3 = .ok (.ldc2_w 291, 3) := by decide +kernel
theorem dX8_fallFor_6 : decode cX8_fallFor 6 = .ok (.invokestatic 91, 3) := by decide +kernel
theorem dX8_fallFor_9 : decode cX8_fallFor 9 = .ok (.ifCond .ne 10, 3) := by decide +kernel
theorem dX8_fallFor_12 : decode cX8_fallFor 12 = .ok (.aload_n 0, 1) := by decide +kernel
theorem dX8_fallFor_13 : decode cX8_fallFor 13 = .ok (.bipush (-2), 2) := by decide +kernel
theorem dX8_fallFor_15 : decode cX8_fallFor 15 = .ok (.invokevirtual 101, 3) := by decide +kernel
theorem dX8_fallFor_18 : decode cX8_fallFor 18 = .ok (.ireturn, 1) := by decide +kernel
theorem dX8_fallFor_19 : decode cX8_fallFor 19 = .ok (.iconst (-1), 1) := by decide +kernel
theorem dX8_fallFor_20 : decode cX8_fallFor 20 = .ok (.istore_n 2, 1) := by decide +kernel
theorem dX8_fallFor_21 : decode cX8_fallFor 21 = .ok (.iconst 5, 1) := by decide +kernel
theorem dX8_fallFor_22 : decode cX8_fallFor 22 = .ok (.istore_n 3, 1) := by decide +kernel
theorem dX8_fallFor_23 : decode cX8_fallFor 23 = .ok (.iload_n 3, 1) := by decide +kernel
theorem dX8_fallFor_24 : decode cX8_fallFor 24 = .ok (.ifCond .lt 36, 3) := by decide +kernel
theorem dX8_fallFor_27 : decode cX8_fallFor 27 = .ok (.aload_n 0, 1) := by decide +kernel
theorem dX8_fallFor_28 : decode cX8_fallFor 28 = .ok (.invokevirtual 265, 3) := by decide +kernel
theorem dX8_fallFor_31 : decode cX8_fallFor 31 = .ok (.aload_n 0, 1) := by decide +kernel
theorem dX8_fallFor_32 : decode cX8_fallFor 32 = .ok (.iload_n 3, 1) := by decide +kernel
theorem dX8_fallFor_33 : decode cX8_fallFor 33 = .ok (.putfield 41, 3) := by decide +kernel
theorem dX8_fallFor_36 : decode cX8_fallFor 36 = .ok (.aload_n 0, 1) := by decide +kernel
theorem dX8_fallFor_37 : decode cX8_fallFor 37 = .ok (.invokevirtual 268, 3) := by decide +kernel
theorem dX8_fallFor_40 : decode cX8_fallFor 40 = .ok (.iload_n 1, 1) := by decide +kernel
theorem dX8_fallFor_41 : decode cX8_fallFor 41 = .ok (.if_icmp .gt 7, 3) := by decide +kernel
theorem dX8_fallFor_44 : decode cX8_fallFor 44 = .ok (.iload_n 3, 1) := by decide +kernel
theorem dX8_fallFor_45 : decode cX8_fallFor 45 = .ok (.goto 4, 3) := by decide +kernel
theorem dX8_fallFor_48 : decode cX8_fallFor 48 = .ok (.iload_n 2, 1) := by decide +kernel
theorem dX8_fallFor_49 : decode cX8_fallFor 49 = .ok (.istore_n 2, 1) := by decide +kernel
theorem dX8_fallFor_50 : decode cX8_fallFor 50 = .ok (.aload_n 0, 1) := by decide +kernel
theorem dX8_fallFor_51 : decode cX8_fallFor 51 = .ok (.invokevirtual 271, 3) := by decide +kernel
theorem dX8_fallFor_54 : decode cX8_fallFor 54 = .ok (.iinc 3 (-1), 3) := by decide +kernel
theorem dX8_fallFor_57 : decode cX8_fallFor 57 = .ok (.goto (-34), 3) := by decide +kernel
theorem dX8_fallFor_60 : decode cX8_fallFor 60 = .ok (.iload_n 2, 1) := by decide +kernel
theorem dX8_fallFor_61 : decode cX8_fallFor 61 = .ok (.ireturn, 1) := by decide +kernel
theorem dX8_noTwos_0 : decode cX8_noTwos 0 = .ok (.iload_n 1, 1) := by decide +kernel
theorem dX8_noTwos_1 : decode cX8_noTwos 1 = .ok (.i2l, 1) := by decide +kernel
theorem dX8_noTwos_2 : decode cX8_noTwos 2 = .ok (.lconst 0, 1) := by decide +kernel
theorem dX8_noTwos_3 : decode cX8_noTwos 3 = .ok (.ldc2_w 95, 3) := by decide +kernel
theorem dX8_noTwos_6 : decode cX8_noTwos 6 = .ok (.invokestatic 91, 3) := by decide +kernel
theorem dX8_noTwos_9 : decode cX8_noTwos 9 = .ok (.ifCond .eq 19, 3) := by decide +kernel
theorem dX8_noTwos_12 : decode cX8_noTwos 12 = .ok (.iload_n 2, 1) := by decide +kernel
theorem dX8_noTwos_13 : decode cX8_noTwos 13 = .ok (.i2l, 1) := by decide +kernel
theorem dX8_noTwos_14 : decode cX8_noTwos 14 = .ok (.lconst 0, 1) := by decide +kernel
theorem dX8_noTwos_15 : decode cX8_noTwos 15 = .ok (.ldc2_w 127, 3) := by decide +kernel
theorem dX8_noTwos_18 : decode cX8_noTwos 18 = .ok (.invokestatic 91, 3) := by decide +kernel
theorem dX8_noTwos_21 : decode cX8_noTwos 21 = .ok (.ifCond .eq 7, 3) := by decide +kernel
theorem dX8_noTwos_24 : decode cX8_noTwos 24 = .ok (.iload_n 3, 1) := by decide +kernel
theorem dX8_noTwos_25 : decode cX8_noTwos 25 = .ok (.ifCond .ne 10, 3) := by decide +kernel
theorem dX8_noTwos_28 : decode cX8_noTwos 28 = .ok (.aload_n 0, 1) := by decide +kernel
theorem dX8_noTwos_29 : decode cX8_noTwos 29 = .ok (.bipush (-2), 2) := by decide +kernel
theorem dX8_noTwos_31 : decode cX8_noTwos 31 = .ok (.invokevirtual 101, 3) := by decide +kernel
theorem dX8_noTwos_34 : decode cX8_noTwos 34 = .ok (.ireturn, 1) := by decide +kernel
theorem dX8_noTwos_35 : decode cX8_noTwos 35 = .ok (.aload_n 0, 1) := by decide +kernel
theorem dX8_noTwos_36 : decode cX8_noTwos 36 = .ok (.iload_n 1, 1) := by decide +kernel
theorem dX8_noTwos_37 : decode cX8_noTwos 37 = .ok (.invokevirtual 105, 3) := by decide +kernel
theorem dX8_noTwos_40 : decode cX8_noTwos 40 = .ok (.istore 4, 2) := by decide +kernel
theorem dX8_noTwos_42 : decode cX8_noTwos 42 = .ok (.iload 4, 2) := by decide +kernel
theorem dX8_noTwos_44 : decode cX8_noTwos 44 = .ok (.ifCond .eq 6, 3) := by decide +kernel
theorem dX8_noTwos_47 : decode cX8_noTwos 47 = .ok (.iload 4, 2) := by decide +kernel
theorem dX8_noTwos_49 : decode cX8_noTwos 49 = .ok (.ireturn, 1) := by decide +kernel
theorem dX8_noTwos_50 : decode cX8_noTwos 50 = .ok (.aload_n 0, 1) := by decide +kernel
theorem dX8_noTwos_51 : decode cX8_noTwos 51 = .ok (.getfield 16, 3) := by decide +kernel
theorem dX8_noTwos_54 : decode cX8_noTwos 54 = .ok (.iload_n 1, 1) := by decide +kernel
theorem dX8_noTwos_55 : decode cX8_noTwos 55 = .ok (.iaload, 1) := by decide +kernel
theorem dX8_noTwos_56 : decode cX8_noTwos 56 = .ok (.iconst 2, 1) := by decide +kernel
theorem dX8_noTwos_57 : decode cX8_noTwos 57 = .ok (.iload_n 2, 1) := by decide +kernel
theorem dX8_noTwos_58 : decode cX8_noTwos 58 = .ok (.imul, 1) := by decide +kernel
theorem dX8_noTwos_59 : decode cX8_noTwos 59 = .ok (.if_icmp .ge 12, 3) := by decide +kernel
theorem dX8_noTwos_62 : decode cX8_noTwos 62 = .ok (.aload_n 0, 1) := by decide +kernel
theorem dX8_noTwos_63 : decode cX8_noTwos 63 = .ok (.bipush (-2), 2) := by decide +kernel
theorem dX8_noTwos_65 : decode cX8_noTwos 65 = .ok (.invokevirtual 101, 3) := by decide +kernel
theorem dX8_noTwos_68 : decode cX8_noTwos 68 = .ok (.goto 4, 3) := by decide +kernel
theorem dX8_noTwos_71 : decode cX8_noTwos 71 = .ok (.iconst 0, 1) := by decide +kernel
theorem dX8_noTwos_72 : decode cX8_noTwos 72 = .ok (.ireturn, 1) := by decide +kernel
theorem dX8_areAirs_0 : decode cX8_areAirs 0 = .ok (.iconst 0, 1) := by decide +kernel
theorem dX8_areAirs_1 : decode cX8_areAirs 1 = .ok (.istore 4, 2) := by decide +kernel
theorem dX8_areAirs_3 : decode cX8_areAirs 3 = .ok (.iload 4, 2) := by decide +kernel
theorem dX8_areAirs_5 : decode cX8_areAirs 5 = .ok (.iload_n 2, 1) := by decide +kernel
theorem dX8_areAirs_6 : decode cX8_areAirs 6 = .ok (.if_icmp .ge 57, 3) := by decide +kernel
theorem dX8_areAirs_9 : decode cX8_areAirs 9 = .ok (.aload_n 0, 1) := by decide +kernel
theorem dX8_areAirs_10 : decode cX8_areAirs 10 = .ok (.getfield 21, 3) := by decide +kernel
theorem dX8_areAirs_13 : decode cX8_areAirs 13 = .ok (.iload_n 1, 1) := by decide +kernel
theorem dX8_areAirs_14 : decode cX8_areAirs 14 = .ok (.aaload, 1) := by decide +kernel
theorem dX8_areAirs_15 : decode cX8_areAirs 15 = .ok (.iconst 2, 1) := by decide +kernel
theorem dX8_areAirs_16 : decode cX8_areAirs 16 = .ok (.iload 4, 2) := by decide +kernel
theorem dX8_areAirs_18 : decode cX8_areAirs 18 = .ok (.imul, 1) := by decide +kernel
theorem dX8_areAirs_19 : decode cX8_areAirs 19 = .ok (.laload, 1) := by decide +kernel
theorem dX8_areAirs_20 : decode cX8_areAirs 20 = .ok (.lconst 0, 1) := by decide +kernel
theorem dX8_areAirs_21 : decode cX8_areAirs 21 = .ok (.ldc2_w 99, 3) := by decide +kernel
theorem dX8_areAirs_24 : decode cX8_areAirs 24 = .ok (.invokestatic 91, 3) := by decide +kernel
theorem dX8_areAirs_27 : decode cX8_areAirs 27 = .ok (.ifCond .eq 28, 3) := by decide +kernel
theorem dX8_areAirs_30 : decode cX8_areAirs 30 = .ok (.iload_n 3, 1) := by decide +kernel
theorem dX8_areAirs_31 : decode cX8_areAirs 31 = .ok (.ifCond .eq 26, 3) := by decide +kernel
theorem dX8_areAirs_34 : decode cX8_areAirs 34 = .ok (.aload_n 0, 1) := by decide +kernel
theorem dX8_areAirs_35 : decode cX8_areAirs 35 = .ok (.getfield 21, 3) := by decide +kernel
theorem dX8_areAirs_38 : decode cX8_areAirs 38 = .ok (.iload_n 1, 1) := by decide +kernel
theorem dX8_areAirs_39 : decode cX8_areAirs 39 = .ok (.aaload, 1) := by decide +kernel
theorem dX8_areAirs_40 : decode cX8_areAirs 40 = .ok (.iconst 2, 1) := by decide +kernel
theorem dX8_areAirs_41 : decode cX8_areAirs 41 = .ok (.iload 4, 2) := by decide +kernel
theorem dX8_areAirs_43 : decode cX8_areAirs 43 = .ok (.imul, 1) := by decide +kernel
theorem dX8_areAirs_44 : decode cX8_areAirs 44 = .ok (.iconst 1, 1) := by decide +kernel
theorem dX8_areAirs_45 : decode cX8_areAirs 45 = .ok (.iadd, 1) := by decide +kernel
theorem dX8_areAirs_46 : decode cX8_areAirs 46 = .ok (.laload, 1) := by decide +kernel
theorem dX8_areAirs_47 : decode cX8_areAirs 47 = .ok (.lconst 0, 1) := by decide +kernel
theorem dX8_areAirs_48 : decode cX8_areAirs 48 = .ok (.lconst 1, 1) := by decide +kernel
theorem dX8_areAirs_49 : decode cX8_areAirs 49 = .ok (.invokestatic 91, 3) := by decide +kernel
theorem dX8_areAirs_52 : decode cX8_areAirs 52 = .ok (.ifCond .ne 5, 3) := by decide +kernel
theorem dX8_areAirs_55 : decode cX8_areAirs 55 = .ok (.iconst 0, 1) := by decide +kernel
theorem dX8_areAirs_56 : decode cX8_areAirs 56 = .ok (.ireturn, 1) := by decide +kernel
theorem dX8_areAirs_57 : decode cX8_areAirs 57 = .ok (.iinc 4 1, 3) := by decide +kernel
theorem dX8_areAirs_60 : decode cX8_areAirs 60 = .ok (.goto (-57), 3) := by decide +kernel
theorem dX8_areAirs_63 : decode cX8_areAirs 63 = .ok (.iconst 1, 1) := by decide +kernel
theorem dX8_areAirs_64 : decode cX8_areAirs 64 = .ok (.ireturn, 1) := by decide +kernel
theorem dX8_isTold_0 : decode cX8_isTold 0 = .ok (.aload_n 0, 1) := by decide +kernel
theorem dX8_isTold_1 : decode cX8_isTold 1 = .ok (.getfield 37, 3) := by decide +kernel
theorem dX8_isTold_4 : decode cX8_isTold 4 = .ok (.istore 5, 2) := by decide +kernel
theorem dX8_isTold_6 : decode cX8_isTold 6 = .ok (.iconst 1, 1) := by decide +kernel
theorem dX8_isTold_7 : decode cX8_isTold 7 = .ok (.istore 6, 2) := by decide +kernel
theorem dX8_isTold_9 : decode cX8_isTold 9 = .ok (.iconst 0, 1) := by decide +kernel
theorem dX8_isTold_10 : decode cX8_isTold 10 = .ok (.istore 7, 2) := by decide +kernel
theorem dX8_isTold_12 : decode cX8_isTold 12 = .ok (.iload 7, 2) := by decide +kernel
theorem dX8_isTold_14 : decode cX8_isTold 14 = .ok (.iload_n 2, 1) := by decide +kernel
theorem dX8_isTold_15 : decode cX8_isTold 15 = .ok (.if_icmp .ge 81, 3) := by decide +kernel
theorem dX8_isTold_18 : decode cX8_isTold 18 = .ok (.iload 6, 2) := by decide +kernel
theorem dX8_isTold_20 : decode cX8_isTold 20 = .ok (.ifCond .eq 76, 3) := by decide +kernel
theorem dX8_isTold_23 : decode cX8_isTold 23 = .ok (.aload_n 0, 1) := by decide +kernel
theorem dX8_isTold_24 : decode cX8_isTold 24 = .ok (.aload_n 0, 1) := by decide +kernel
theorem dX8_isTold_25 : decode cX8_isTold 25 = .ok (.getfield 21, 3) := by decide +kernel
theorem dX8_isTold_28 : decode cX8_isTold 28 = .ok (.iload_n 1, 1) := by decide +kernel
theorem dX8_isTold_29 : decode cX8_isTold 29 = .ok (.aaload, 1) := by decide +kernel
theorem dX8_isTold_30 : decode cX8_isTold 30 = .ok (.iconst 2, 1) := by decide +kernel
theorem dX8_isTold_31 : decode cX8_isTold 31 = .ok (.iload 7, 2) := by decide +kernel
theorem dX8_isTold_33 : decode cX8_isTold 33 = .ok (.imul, 1) := by decide +kernel
theorem dX8_isTold_34 : decode cX8_isTold 34 = .ok (.laload, 1) := by decide +kernel
theorem dX8_isTold_35 : decode cX8_isTold 35 = .ok (.l2i, 1) := by decide +kernel
theorem dX8_isTold_36 : decode cX8_isTold 36 = .ok (.putfield 37, 3) := by decide +kernel
theorem dX8_isTold_39 : decode cX8_isTold 39 = .ok (.iload 4, 2) := by decide +kernel
theorem dX8_isTold_41 : decode cX8_isTold 41 = .ok (.ifCond .eq 19, 3) := by decide +kernel
theorem dX8_isTold_44 : decode cX8_isTold 44 = .ok (.aload_n 0, 1) := by decide +kernel
theorem dX8_isTold_45 : decode cX8_isTold 45 = .ok (.iload_n 3, 1) := by decide +kernel
theorem dX8_isTold_46 : decode cX8_isTold 46 = .ok (.invokevirtual 239, 3) := by decide +kernel
theorem dX8_isTold_49 : decode cX8_isTold 49 = .ok (.ifCond .eq 7, 3) := by decide +kernel
theorem dX8_isTold_52 : decode cX8_isTold 52 = .ok (.iconst 1, 1) := by decide +kernel
theorem dX8_isTold_53 : decode cX8_isTold 53 = .ok (.goto 12, 3) := by decide +kernel
theorem dX8_isTold_56 : decode cX8_isTold 56 = .ok (.iconst 0, 1) := by decide +kernel
theorem dX8_isTold_57 : decode cX8_isTold 57 = .ok (.goto 8, 3) := by decide +kernel
theorem dX8_isTold_60 : decode cX8_isTold 60 = .ok (.aload_n 0, 1) := by decide +kernel
theorem dX8_isTold_61 : decode cX8_isTold 61 = .ok (.iload_n 3, 1) := by decide +kernel
theorem dX8_isTold_62 : decode cX8_isTold 62 = .ok (.invokevirtual 122, 3) := by decide +kernel
theorem dX8_isTold_65 : decode cX8_isTold 65 = .ok (.i2l, 1) := by decide +kernel
theorem dX8_isTold_66 : decode cX8_isTold 66 = .ok (.aload_n 0, 1) := by decide +kernel
theorem dX8_isTold_67 : decode cX8_isTold 67 = .ok (.getfield 21, 3) := by decide +kernel
theorem dX8_isTold_70 : decode cX8_isTold 70 = .ok (.iload_n 1, 1) := by decide +kernel
theorem dX8_isTold_71 : decode cX8_isTold 71 = .ok (.aaload, 1) := by decide +kernel
theorem dX8_isTold_72 : decode cX8_isTold 72 = .ok (.iconst 2, 1) := by decide +kernel
theorem dX8_isTold_73 : decode cX8_isTold 73 = .ok (.iload 7, 2) := by decide +kernel
theorem dX8_isTold_75 : decode cX8_isTold 75 = .ok (.imul, 1) := by decide +kernel
theorem dX8_isTold_76 : decode cX8_isTold 76 = .ok (.iconst 1, 1) := by decide +kernel
theorem dX8_isTold_77 : decode cX8_isTold 77 = .ok (.iadd, 1) := by decide +kernel
theorem dX8_isTold_78 : decode cX8_isTold 78 = .ok (.laload, 1) := by decide +kernel
theorem dX8_isTold_79 : decode cX8_isTold 79 = .ok (.lcmp, 1) := by decide +kernel
theorem dX8_isTold_80 : decode cX8_isTold 80 = .ok (.ifCond .ne 7, 3) := by decide +kernel
theorem dX8_isTold_83 : decode cX8_isTold 83 = .ok (.iconst 1, 1) := by decide +kernel
theorem dX8_isTold_84 : decode cX8_isTold 84 = .ok (.goto 4, 3) := by decide +kernel
theorem dX8_isTold_87 : decode cX8_isTold 87 = .ok (.iconst 0, 1) := by decide +kernel
theorem dX8_isTold_88 : decode cX8_isTold 88 = .ok (.istore 6, 2) := by decide +kernel
theorem dX8_isTold_90 : decode cX8_isTold 90 = .ok (.iinc 7 1, 3) := by decide +kernel
theorem dX8_isTold_93 : decode cX8_isTold 93 = .ok (.goto (-81), 3) := by decide +kernel
theorem dX8_isTold_96 : decode cX8_isTold 96 = .ok (.aload_n 0, 1) := by decide +kernel
theorem dX8_isTold_97 : decode cX8_isTold 97 = .ok (.iload 5, 2) := by decide +kernel
theorem dX8_isTold_99 : decode cX8_isTold 99 = .ok (.putfield 37, 3) := by decide +kernel
theorem dX8_isTold_102 : decode cX8_isTold 102 = .ok (.iload 6, 2) := by decide +kernel
theorem dX8_isTold_104 : decode cX8_isTold 104 = .ok (.ireturn, 1) := by decide +kernel
theorem dX8_prides_0 : decode cX8_prides 0 = .ok (.aload_n 0, 1) := by decide +kernel
theorem dX8_prides_1 : decode cX8_prides 1 = .ok (.iload_n 1, 1) := by decide +kernel
theorem dX8_prides_2 : decode cX8_prides 2 = .ok (.iload_n 2, 1) := by decide +kernel
theorem dX8_prides_3 : decode cX8_prides 3 = .ok (.aload_n 0, 1) := by decide +kernel
theorem dX8_prides_4 : decode cX8_prides 4 = .ok (.iload_n 3, 1) := by decide +kernel
theorem dX8_prides_5 : decode cX8_prides 5 = .ok (.i2l, 1) := by decide +kernel
theorem dX8_prides_6 : decode cX8_prides 6 = .ok (.invokevirtual 112, 3) := by decide +kernel
theorem dX8_prides_9 : decode cX8_prides 9 = .ok (.invokevirtual 306, 3) := by decide +kernel
theorem dX8_prides_12 : decode cX8_prides 12 = .ok (.istore 4, 2) := by decide +kernel
theorem dX8_prides_14 : decode cX8_prides 14 = .ok (.iload 4, 2) := by decide +kernel
theorem dX8_prides_16 : decode cX8_prides 16 = .ok (.ifCond .eq 6, 3) := by decide +kernel
theorem dX8_prides_19 : decode cX8_prides 19 = .ok (.iload 4, 2) := by decide +kernel
theorem dX8_prides_21 : decode cX8_prides 21 = .ok (.ireturn, 1) := by decide +kernel
theorem dX8_prides_22 : decode cX8_prides 22 = .ok (.aload_n 0, 1) := by decide +kernel
theorem dX8_prides_23 : decode cX8_prides 23 = .ok (.iload_n 1, 1) := by decide +kernel
theorem dX8_prides_24 : decode cX8_prides 24 = .ok (.iload_n 2, 1) := by decide +kernel
theorem dX8_prides_25 : decode cX8_prides 25 = .ok (.iconst 1, 1) := by decide +kernel
theorem dX8_prides_26 : decode cX8_prides 26 = .ok (.invokevirtual 310, 3) := by decide +kernel
theorem dX8_prides_29 : decode cX8_prides 29 = .ok (.ifCond .ne 10, 3) := by decide +kernel
theorem dX8_prides_32 : decode cX8_prides 32 = .ok (.aload_n 0, 1) := by decide +kernel
theorem dX8_prides_33 : decode cX8_prides 33 = .ok (.bipush (-5), 2) := by decide +kernel
theorem dX8_prides_35 : decode cX8_prides 35 = .ok (.invokevirtual 101, 3) := by decide +kernel
theorem dX8_prides_38 : decode cX8_prides 38 = .ok (.ireturn, 1) := by decide +kernel
theorem dX8_prides_39 : decode cX8_prides 39 = .ok (.aload_n 0, 1) := by decide +kernel
theorem dX8_prides_40 : decode cX8_prides 40 = .ok (.getfield 56, 3) := by decide +kernel
theorem dX8_prides_43 : decode cX8_prides 43 = .ok (.iload_n 3, 1) := by decide +kernel
theorem dX8_prides_44 : decode cX8_prides 44 = .ok (.iaload, 1) := by decide +kernel
theorem dX8_prides_45 : decode cX8_prides 45 = .ok (.istore 5, 2) := by decide +kernel
theorem dX8_prides_47 : decode cX8_prides 47 = .ok (.iconst 0, 1) := by decide +kernel
theorem dX8_prides_48 : decode cX8_prides 48 = .ok (.istore 6, 2) := by decide +kernel
theorem dX8_prides_50 : decode cX8_prides 50 = .ok (.iconst 0, 1) := by decide +kernel
theorem dX8_prides_51 : decode cX8_prides 51 = .ok (.istore 7, 2) := by decide +kernel
theorem dX8_prides_53 : decode cX8_prides 53 = .ok (.iload 7, 2) := by decide +kernel
theorem dX8_prides_55 : decode cX8_prides 55 = .ok (.bipush 20, 2) := by decide +kernel
theorem dX8_prides_57 : decode cX8_prides 57 = .ok (.if_icmp .gt 41, 3) := by decide +kernel
theorem dX8_prides_60 : decode cX8_prides 60 = .ok (.aload_n 0, 1) := by decide +kernel
theorem dX8_prides_61 : decode cX8_prides 61 = .ok (.getfield 56, 3) := by decide +kernel
theorem dX8_prides_64 : decode cX8_prides 64 = .ok (.iload_n 3, 1) := by decide +kernel
theorem dX8_prides_65 : decode cX8_prides 65 = .ok (.iload 7, 2) := by decide +kernel
theorem dX8_prides_67 : decode cX8_prides 67 = .ok (.iastore, 1) := by decide +kernel
theorem dX8_prides_68 : decode cX8_prides 68 = .ok (.iload 6, 2) := by decide +kernel
theorem dX8_prides_70 : decode cX8_prides 70 = .ok (.aload_n 0, 1) := by decide +kernel
theorem dX8_prides_71 : decode cX8_prides 71 = .ok (.iload_n 1, 1) := by decide +kernel
theorem dX8_prides_72 : decode cX8_prides 72 = .ok (.iload_n 2, 1) := by decide +kernel
theorem dX8_prides_73 : decode cX8_prides 73 = .ok (.iload_n 3, 1) := by decide +kernel
theorem dX8_prides_74 : decode cX8_prides 74 = .ok (.iconst 1, 1) := by decide +kernel
theorem dX8_prides_75 : decode cX8_prides 75 = .ok (.invokevirtual 314, 3) := by decide +kernel
theorem dX8_prides_78 : decode cX8_prides 78 = .ok (.ifCond .eq 10, 3) := by decide +kernel
theorem dX8_prides_81 : decode cX8_prides 81 = .ok (.iconst 1, 1) := by decide +kernel
theorem dX8_prides_82 : decode cX8_prides 82 = .ok (.iload 7, 2) := by decide +kernel
theorem dX8_prides_84 : decode cX8_prides 84 = .ok (.ishl, 1) := by decide +kernel
theorem dX8_prides_85 : decode cX8_prides 85 = .ok (.goto 4, 3) := by decide +kernel
theorem dX8_prides_88 : decode cX8_prides 88 = .ok (.iconst 0, 1) := by decide +kernel
theorem dX8_prides_89 : decode cX8_prides 89 = .ok (.ior, 1) := by decide +kernel
theorem dX8_prides_90 : decode cX8_prides 90 = .ok (.istore 6, 2) := by decide +kernel
theorem dX8_prides_92 : decode cX8_prides 92 = .ok (.iinc 7 1, 3) := by decide +kernel
theorem dX8_prides_95 : decode cX8_prides 95 = .ok (.goto (-42), 3) := by decide +kernel
theorem dX8_prides_98 : decode cX8_prides 98 = .ok (.aload_n 0, 1) := by decide +kernel
theorem dX8_prides_99 : decode cX8_prides 99 = .ok (.getfield 56, 3) := by decide +kernel
theorem dX8_prides_102 : decode cX8_prides 102 = .ok (.iload_n 3, 1) := by decide +kernel
theorem dX8_prides_103 : decode cX8_prides 103 = .ok (.iload 5, 2) := by decide +kernel
theorem dX8_prides_105 : decode cX8_prides 105 = .ok (.iastore, 1) := by decide +kernel
theorem dX8_prides_106 : decode cX8_prides 106 = .ok (.iload 6, 2) := by decide +kernel
theorem dX8_prides_108 : decode cX8_prides 108 = .ok (.ireturn, 1) := by decide +kernel
theorem dX8_kinds_0 : decode cX8_kinds 0 = .ok (.aload_n 0, 1) := by decide +kernel
theorem dX8_kinds_1 : decode cX8_kinds 1 = .ok (.iload_n 1, 1) := by decide +kernel
theorem dX8_kinds_2 : decode cX8_kinds 2 = .ok (.iload_n 2, 1) := by decide +kernel
theorem dX8_kinds_3 : decode cX8_kinds 3 = .ok (.aload_n 0, 1) := by decide +kernel
theorem dX8_kinds_4 : decode cX8_kinds 4 = .ok (.iload_n 3, 1) := by decide +kernel
theorem dX8_kinds_5 : decode cX8_kinds 5 = .ok (.i2l, 1) := by decide +kernel
theorem dX8_kinds_6 : decode cX8_kinds 6 = .ok (.invokevirtual 112, 3) := by decide +kernel
theorem dX8_kinds_9 : decode cX8_kinds 9 = .ok (.invokevirtual 306, 3) := by decide +kernel
theorem dX8_kinds_12 : decode cX8_kinds 12 = .ok (.istore 4, 2) := by decide +kernel
theorem dX8_kinds_14 : decode cX8_kinds 14 = .ok (.iload 4, 2) := by decide +kernel
theorem dX8_kinds_16 : decode cX8_kinds 16 = .ok (.ifCond .eq 6, 3) := by decide +kernel
theorem dX8_kinds_19 : decode cX8_kinds 19 = .ok (.iload 4, 2) := by decide +kernel
theorem dX8_kinds_21 : decode cX8_kinds 21 = .ok (.ireturn, 1) := by decide +kernel
theorem dX8_kinds_22 : decode cX8_kinds 22 = .ok (.aload_n 0, 1) := by decide +kernel
theorem dX8_kinds_23 : decode cX8_kinds 23 = .ok (.iload_n 1, 1) := by decide +kernel
theorem dX8_kinds_24 : decode cX8_kinds 24 = .ok (.iload_n 2, 1) := by decide +kernel
theorem dX8_kinds_25 : decode cX8_kinds 25 = .ok (.iconst 0, 1) := by decide +kernel
theorem dX8_kinds_26 : decode cX8_kinds 26 = .ok (.invokevirtual 310, 3) := by decide +kernel
theorem dX8_kinds_29 : decode cX8_kinds 29 = .ok (.ifCond .ne 10, 3) := by decide +kernel
theorem dX8_kinds_32 : decode cX8_kinds 32 = .ok (.aload_n 0, 1) := by decide +kernel
theorem dX8_kinds_33 : decode cX8_kinds 33 = .ok (.bipush (-5), 2) := by decide +kernel
theorem dX8_kinds_35 : decode cX8_kinds 35 = .ok (.invokevirtual 101, 3) := by decide +kernel
theorem dX8_kinds_38 : decode cX8_kinds 38 = .ok (.ireturn, 1) := by decide +kernel
theorem dX8_kinds_39 : decode cX8_kinds 39 = .ok (.aload_n 0, 1) := by decide +kernel
theorem dX8_kinds_40 : decode cX8_kinds 40 = .ok (.getfield 50, 3) := by decide +kernel
theorem dX8_kinds_43 : decode cX8_kinds 43 = .ok (.iload_n 3, 1) := by decide +kernel
theorem dX8_kinds_44 : decode cX8_kinds 44 = .ok (.iaload, 1) := by decide +kernel
theorem dX8_kinds_45 : decode cX8_kinds 45 = .ok (.istore 5, 2) := by decide +kernel
theorem dX8_kinds_47 : decode cX8_kinds 47 = .ok (.iconst 0, 1) := by decide +kernel
theorem dX8_kinds_48 : decode cX8_kinds 48 = .ok (.istore 6, 2) := by decide +kernel
theorem dX8_kinds_50 : decode cX8_kinds 50 = .ok (.iconst 0, 1) := by decide +kernel
theorem dX8_kinds_51 : decode cX8_kinds 51 = .ok (.istore 7, 2) := by decide +kernel
theorem dX8_kinds_53 : decode cX8_kinds 53 = .ok (.iload 7, 2) := by decide +kernel
theorem dX8_kinds_55 : decode cX8_kinds 55 = .ok (.iconst 5, 1) := by decide +kernel
theorem dX8_kinds_56 : decode cX8_kinds 56 = .ok (.if_icmp .gt 41, 3) := by decide +kernel
theorem dX8_kinds_59 : decode cX8_kinds 59 = .ok (.aload_n 0, 1) := by decide +kernel
theorem dX8_kinds_60 : decode cX8_kinds 60 = .ok (.getfield 50, 3) := by decide +kernel
theorem dX8_kinds_63 : decode cX8_kinds 63 = .ok (.iload_n 3, 1) := by decide +kernel
theorem dX8_kinds_64 : decode cX8_kinds 64 = .ok (.iload 7, 2) := by decide +kernel
theorem dX8_kinds_66 : decode cX8_kinds 66 = .ok (.iastore, 1) := by decide +kernel
theorem dX8_kinds_67 : decode cX8_kinds 67 = .ok (.iload 6, 2) := by decide +kernel
theorem dX8_kinds_69 : decode cX8_kinds 69 = .ok (.aload_n 0, 1) := by decide +kernel
theorem dX8_kinds_70 : decode cX8_kinds 70 = .ok (.iload_n 1, 1) := by decide +kernel
theorem dX8_kinds_71 : decode cX8_kinds 71 = .ok (.iload_n 2, 1) := by decide +kernel
theorem dX8_kinds_72 : decode cX8_kinds 72 = .ok (.iload_n 3, 1) := by decide +kernel
theorem dX8_kinds_73 : decode cX8_kinds 73 = .ok (.iconst 0, 1) := by decide +kernel
theorem dX8_kinds_74 : decode cX8_kinds 74 = .ok (.invokevirtual 314, 3) := by decide +kernel
theorem dX8_kinds_77 : decode cX8_kinds 77 = .ok (.ifCond .eq 10, 3) := by decide +kernel
theorem dX8_kinds_80 : decode cX8_kinds 80 = .ok (.iconst 1, 1) := by decide +kernel
theorem dX8_kinds_81 : decode cX8_kinds 81 = .ok (.iload 7, 2) := by decide +kernel
theorem dX8_kinds_83 : decode cX8_kinds 83 = .ok (.ishl, 1) := by decide +kernel
theorem dX8_kinds_84 : decode cX8_kinds 84 = .ok (.goto 4, 3) := by decide +kernel
theorem dX8_kinds_87 : decode cX8_kinds 87 = .ok (.iconst 0, 1) := by decide +kernel
theorem dX8_kinds_88 : decode cX8_kinds 88 = .ok (.ior, 1) := by decide +kernel
theorem dX8_kinds_89 : decode cX8_kinds 89 = .ok (.istore 6, 2) := by decide +kernel
theorem dX8_kinds_91 : decode cX8_kinds 91 = .ok (.iinc 7 1, 3) := by decide +kernel
theorem dX8_kinds_94 : decode cX8_kinds 94 = .ok (.goto (-41), 3) := by decide +kernel
theorem dX8_kinds_97 : decode cX8_kinds 97 = .ok (.aload_n 0, 1) := by decide +kernel
theorem dX8_kinds_98 : decode cX8_kinds 98 = .ok (.getfield 50, 3) := by decide +kernel
theorem dX8_kinds_101 : decode cX8_kinds 101 = .ok (.iload_n 3, 1) := by decide +kernel
theorem dX8_kinds_102 : decode cX8_kinds 102 = .ok (.iload 5, 2) := by decide +kernel
theorem dX8_kinds_104 : decode cX8_kinds 104 = .ok (.iastore, 1) := by decide +kernel
theorem dX8_kinds_105 : decode cX8_kinds 105 = .ok (.iload 6, 2) := by decide +kernel
theorem dX8_kinds_107 : decode cX8_kinds 107 = .ok (.ireturn, 1) := by decide +kernel
theorem dX8_tellBelow_0 : decode cX8_tellBelow 0 = .ok (.aload_n 0, 1) := by decide +kernel
theorem dX8_tellBelow_1 : decode cX8_tellBelow 1 = .ok (.getfield 77, 3) := by decide +kernel
theorem dX8_tellBelow_4 : decode cX8_tellBelow 4 = .ok (.iload_n 2, 1) := by decide +kernel
theorem dX8_tellBelow_5 : decode cX8_tellBelow 5 = .ok (.iaload, 1) := by decide +kernel
theorem dX8_tellBelow_6 : decode cX8_tellBelow 6 = .ok (.iconst 1, 1) := by decide +kernel
theorem dX8_tellBelow_7 : decode cX8_tellBelow 7 = .ok (.iload_n 2, 1) := by decide +kernel
theorem dX8_tellBelow_8 : decode cX8_tellBelow 8 = .ok (.ishl, 1) := by decide +kernel
theorem dX8_tellBelow_9 : decode cX8_tellBelow 9 = .ok (.ior, 1) := by decide +kernel
theorem dX8_tellBelow_10 : decode cX8_tellBelow 10 = .ok (.istore_n 3, 1) := by decide +kernel
theorem dX8_tellBelow_11 : decode cX8_tellBelow 11 = .ok (.iconst 0, 1) := by decide +kernel
theorem dX8_tellBelow_12 : decode cX8_tellBelow 12 = .ok (.istore 4, 2) := by decide +kernel
theorem dX8_tellBelow_14 : decode cX8_tellBelow 14 = .ok (.iload 4, 2) := by decide +kernel
theorem dX8_tellBelow_16 : decode cX8_tellBelow 16 = .ok (.aload_n 0, 1) := by decide +kernel
theorem dX8_tellBelow_17 : decode cX8_tellBelow 17 = .ok (.getfield 88, 3) := by decide +kernel
theorem dX8_tellBelow_20 : decode cX8_tellBelow 20 = .ok (.if_icmp .ge 45, 3) := by decide +kernel
theorem dX8_tellBelow_23 : decode cX8_tellBelow 23 = .ok (.aload_n 0, 1) := by decide +kernel
theorem dX8_tellBelow_24 : decode cX8_tellBelow 24 = .ok (.getfield 77, 3) := by decide +kernel
theorem dX8_tellBelow_27 : decode cX8_tellBelow 27 = .ok (.iload 4, 2) := by decide +kernel
theorem dX8_tellBelow_29 : decode cX8_tellBelow 29 = .ok (.dup2, 1) := by decide +kernel
theorem dX8_tellBelow_30 : decode cX8_tellBelow 30 = .ok (.iaload, 1) := by decide +kernel
theorem dX8_tellBelow_31 : decode cX8_tellBelow 31 = .ok (.iload 4, 2) := by decide +kernel
theorem dX8_tellBelow_33 : decode cX8_tellBelow 33 = .ok (.iload_n 1, 1) := by decide +kernel
theorem dX8_tellBelow_34 : decode cX8_tellBelow 34 = .ok (.if_icmp .eq 18, 3) := by decide +kernel
theorem dX8_tellBelow_37 : decode cX8_tellBelow 37 = .ok (.aload_n 0, 1) := by decide +kernel
theorem dX8_tellBelow_38 : decode cX8_tellBelow 38 = .ok (.getfield 77, 3) := by decide +kernel
theorem dX8_tellBelow_41 : decode cX8_tellBelow 41 = .ok (.iload 4, 2) := by decide +kernel
theorem dX8_tellBelow_43 : decode cX8_tellBelow 43 = .ok (.iaload, 1) := by decide +kernel
theorem dX8_tellBelow_44 : decode cX8_tellBelow 44 = .ok (.iload_n 1, 1) := by decide +kernel
theorem dX8_tellBelow_45 : decode cX8_tellBelow 45 = .ok (.ishr, 1) := by decide +kernel
theorem dX8_tellBelow_46 : decode cX8_tellBelow 46 = .ok (.iconst 1, 1) := by decide +kernel
theorem dX8_tellBelow_47 : decode cX8_tellBelow 47 = .ok (.iand, 1) := by decide +kernel
theorem dX8_tellBelow_48 : decode cX8_tellBelow 48 = .ok (.iconst 1, 1) := by decide +kernel
theorem dX8_tellBelow_49 : decode cX8_tellBelow 49 = .ok (.if_icmp .ne 7, 3) := by decide +kernel
theorem dX8_tellBelow_52 : decode cX8_tellBelow 52 = .ok (.iload_n 3, 1) := by decide +kernel
theorem dX8_tellBelow_53 : decode cX8_tellBelow 53 = .ok (.goto 4, 3) := by decide +kernel
theorem dX8_tellBelow_56 : decode cX8_tellBelow 56 = .ok (.iconst 0, 1) := by decide +kernel
theorem dX8_tellBelow_57 : decode cX8_tellBelow 57 = .ok (.ior, 1) := by decide +kernel
theorem dX8_tellBelow_58 : decode cX8_tellBelow 58 = .ok (.iastore, 1) := by decide +kernel
theorem dX8_tellBelow_59 : decode cX8_tellBelow 59 = .ok (.iinc 4 1, 3) := by decide +kernel
theorem dX8_tellBelow_62 : decode cX8_tellBelow 62 = .ok (.goto (-48), 3) := by decide +kernel
theorem dX8_tellBelow_65 : decode cX8_tellBelow 65 = .ok (.return_, 1) := by decide +kernel
theorem dX8_findClash_0 : decode cX8_findClash 0 = .ok (.iconst 0, 1) := by decide +kernel
theorem dX8_findClash_1 : decode cX8_findClash 1 = .ok (.istore_n 3, 1) := by decide +kernel
theorem dX8_findClash_2 : decode cX8_findClash 2 = .ok (.iload_n 3, 1) := by decide +kernel
theorem dX8_findClash_3 : decode cX8_findClash 3 = .ok (.aload_n 0, 1) := by decide +kernel
theorem dX8_findClash_4 : decode cX8_findClash 4 = .ok (.getfield 88, 3) := by decide +kernel
theorem dX8_findClash_7 : decode cX8_findClash 7 = .ok (.if_icmp .ge 16, 3) := by decide +kernel
theorem dX8_findClash_10 : decode cX8_findClash 10 = .ok (.aload_n 0, 1) := by decide +kernel
theorem dX8_findClash_11 : decode cX8_findClash 11 = .ok (.getfield 77, 3) := by decide +kernel
theorem dX8_findClash_14 : decode cX8_findClash 14 = .ok (.iload_n 3, 1) := by decide +kernel
theorem dX8_findClash_15 : decode cX8_findClash 15 = .ok (.iconst 0, 1) := by decide +kernel
theorem dX8_findClash_16 : decode cX8_findClash 16 = .ok (.iastore, 1) := by decide +kernel
theorem dX8_findClash_17 : decode cX8_findClash 17 = .ok (.iinc 3 1, 3) := by decide +kernel
theorem dX8_findClash_20 : decode cX8_findClash 20 = .ok (.goto (-18), 3) := by decide +kernel
theorem dX8_findClash_23 : decode cX8_findClash 23 = .ok (.iconst 0, 1) := by decide +kernel
theorem dX8_findClash_24 : decode cX8_findClash 24 = .ok (.istore_n 3, 1) := by decide +kernel
theorem dX8_findClash_25 : decode cX8_findClash 25 = .ok (.iload_n 3, 1) := by decide +kernel
theorem dX8_findClash_26 : decode cX8_findClash 26 = .ok (.iload_n 2, 1) := by decide +kernel
theorem dX8_findClash_27 : decode cX8_findClash 27 = .ok (.if_icmp .ge 91, 3) := by decide +kernel
theorem dX8_findClash_30 : decode cX8_findClash 30 = .ok (.aload_n 0, 1) := by decide +kernel
theorem dX8_findClash_31 : decode cX8_findClash 31 = .ok (.getfield 21, 3) := by decide +kernel
theorem dX8_findClash_34 : decode cX8_findClash 34 = .ok (.iload_n 1, 1) := by decide +kernel
theorem dX8_findClash_35 : decode cX8_findClash 35 = .ok (.aaload, 1) := by decide +kernel
theorem dX8_findClash_36 : decode cX8_findClash 36 = .ok (.iconst 2, 1) := by decide +kernel
theorem dX8_findClash_37 : decode cX8_findClash 37 = .ok (.iload_n 3, 1) := by decide +kernel
theorem dX8_findClash_38 : decode cX8_findClash 38 = .ok (.imul, 1) := by decide +kernel
theorem dX8_findClash_39 : decode cX8_findClash 39 = .ok (.laload, 1) := by decide +kernel
theorem dX8_findClash_40 : decode cX8_findClash 40 = .ok (.lstore 4, 2) := by decide +kernel
theorem dX8_findClash_42 : decode cX8_findClash 42 = .ok (.aload_n 0, 1) := by decide +kernel
theorem dX8_findClash_43 : decode cX8_findClash 43 = .ok (.getfield 21, 3) := by decide +kernel
theorem dX8_findClash_46 : decode cX8_findClash 46 = .ok (.iload_n 1, 1) := by decide +kernel
theorem dX8_findClash_47 : decode cX8_findClash 47 = .ok (.aaload, 1) := by decide +kernel
theorem dX8_findClash_48 : decode cX8_findClash 48 = .ok (.iconst 2, 1) := by decide +kernel
theorem dX8_findClash_49 : decode cX8_findClash 49 = .ok (.iload_n 3, 1) := by decide +kernel
theorem dX8_findClash_50 : decode cX8_findClash 50 = .ok (.imul, 1) := by decide +kernel
theorem dX8_findClash_51 : decode cX8_findClash 51 = .ok (.iconst 1, 1) := by decide +kernel
theorem dX8_findClash_52 : decode cX8_findClash 52 = .ok (.iadd, 1) := by decide +kernel
theorem dX8_findClash_53 : decode cX8_findClash 53 = .ok (.laload, 1) := by decide +kernel
theorem dX8_findClash_54 : decode cX8_findClash 54 = .ok (.lstore 6, 2) := by decide +kernel
theorem dX8_findClash_56 : decode cX8_findClash 56 = .ok (.aload_n 0, 1) := by decide +kernel
theorem dX8_findClash_57 : decode cX8_findClash 57 = .ok (.lload 4, 2) := by decide +kernel
theorem dX8_findClash_59 : decode cX8_findClash 59 = .ok (.invokevirtual 112, 3) := by decide +kernel
theorem dX8_findClash_62 : decode cX8_findClash 62 = .ok (.ifCond .eq 38, 3) := by decide +kernel
theorem dX8_findClash_65 : decode cX8_findClash 65 = .ok (.aload_n 0, 1) := by decide +kernel
theorem dX8_findClash_66 : decode cX8_findClash 66 = .ok (.lload 6, 2) := by decide +kernel
theorem dX8_findClash_68 : decode cX8_findClash 68 = .ok (.invokevirtual 112, 3) := by decide +kernel
theorem dX8_findClash_71 : decode cX8_findClash 71 = .ok (.ifCond .eq 29, 3) := by decide +kernel
theorem dX8_findClash_74 : decode cX8_findClash 74 = .ok (.lload 4, 2) := by decide +kernel
theorem dX8_findClash_76 : decode cX8_findClash 76 = .ok (.lload 6, 2) := by decide +kernel
theorem dX8_findClash_78 : decode cX8_findClash 78 = .ok (.lcmp, 1) := by decide +kernel
theorem dX8_findClash_79 : decode cX8_findClash 79 = .ok (.ifCond .eq 21, 3) := by decide +kernel
theorem dX8_findClash_82 : decode cX8_findClash 82 = .ok (.aload_n 0, 1) := by decide +kernel
theorem dX8_findClash_83 : decode cX8_findClash 83 = .ok (.getfield 77, 3) := by decide +kernel
theorem dX8_findClash_86 : decode cX8_findClash 86 = .ok (.lload 6, 2) := by decide +kernel
theorem dX8_findClash_88 : decode cX8_findClash 88 = .ok (.l2i, 1) := by decide +kernel
theorem dX8_findClash_89 : decode cX8_findClash 89 = .ok (.iaload, 1) := by decide +kernel
theorem dX8_findClash_90 : decode cX8_findClash 90 = .ok (.lload 4, 2) := by decide +kernel
theorem dX8_findClash_92 : decode cX8_findClash 92 = .ok (.l2i, 1) := by decide +kernel
theorem dX8_findClash_93 : decode cX8_findClash 93 = .ok (.ishr, 1) := by decide +kernel
theorem dX8_findClash_94 : decode cX8_findClash 94 = .ok (.iconst 1, 1) := by decide +kernel
theorem dX8_findClash_95 : decode cX8_findClash 95 = .ok (.iand, 1) := by decide +kernel
theorem dX8_findClash_96 : decode cX8_findClash 96 = .ok (.iconst 1, 1) := by decide +kernel
theorem dX8_findClash_97 : decode cX8_findClash 97 = .ok (.if_icmp .ne 5, 3) := by decide +kernel
theorem dX8_findClash_100 : decode cX8_findClash 100 = .ok (.iload_n 3, 1) := by decide +kernel
theorem dX8_findClash_101 : decode cX8_findClash 101 = .ok (.ireturn, 1) := by decide +kernel
theorem dX8_findClash_102 : decode cX8_findClash 102 = .ok (.aload_n 0, 1) := by decide +kernel
theorem dX8_findClash_103 : decode cX8_findClash 103 = .ok (.lload 4, 2) := by decide +kernel
theorem dX8_findClash_105 : decode cX8_findClash 105 = .ok (.l2i, 1) := by decide +kernel
theorem dX8_findClash_106 : decode cX8_findClash 106 = .ok (.lload 6, 2) := by decide +kernel
theorem dX8_findClash_108 : decode cX8_findClash 108 = .ok (.l2i, 1) := by decide +kernel
theorem dX8_findClash_109 : decode cX8_findClash 109 = .ok (.invokevirtual 318, 3) := by decide +kernel
theorem dX8_findClash_112 : decode cX8_findClash 112 = .ok (.iinc 3 1, 3) := by decide +kernel
theorem dX8_findClash_115 : decode cX8_findClash 115 = .ok (.goto (-90), 3) := by decide +kernel
theorem dX8_findClash_118 : decode cX8_findClash 118 = .ok (.iconst (-1), 1) := by decide +kernel
theorem dX8_findClash_119 : decode cX8_findClash 119 = .ok (.ireturn, 1) := by decide +kernel
theorem dX8_clash_0 : decode cX8_clash 0 = .ok (.aload_n 0, 1) := by decide +kernel
theorem dX8_clash_1 : decode cX8_clash 1 = .ok (.iload_n 1, 1) := by decide +kernel
theorem dX8_clash_2 : decode cX8_clash 2 = .ok (.iload_n 2, 1) := by decide +kernel
theorem dX8_clash_3 : decode cX8_clash 3 = .ok (.iconst 1, 1) := by decide +kernel
theorem dX8_clash_4 : decode cX8_clash 4 = .ok (.invokevirtual 306, 3) := by decide +kernel
theorem dX8_clash_7 : decode cX8_clash 7 = .ok (.istore_n 3, 1) := by decide +kernel
theorem dX8_clash_8 : decode cX8_clash 8 = .ok (.iload_n 3, 1) := by decide +kernel
theorem dX8_clash_9 : decode cX8_clash 9 = .ok (.ifCond .eq 7, 3) := by decide +kernel
theorem dX8_clash_12 : decode cX8_clash 12 = .ok (.iload_n 3, 1) := by decide +kernel
theorem dX8_clash_13 : decode cX8_clash 13 = .ok (.goto 9, 3) := by decide +kernel
theorem dX8_clash_16 : decode cX8_clash 16 = .ok (.aload_n 0, 1) := by decide +kernel
theorem dX8_clash_17 : decode cX8_clash 17 = .ok (.iload_n 1, 1) := by decide +kernel
theorem dX8_clash_18 : decode cX8_clash 18 = .ok (.iload_n 2, 1) := by decide +kernel
theorem dX8_clash_19 : decode cX8_clash 19 = .ok (.invokevirtual 322, 3) := by decide +kernel
theorem dX8_clash_22 : decode cX8_clash 22 = .ok (.ireturn, 1) := by decide +kernel
theorem dX8_noBowls_0 : decode cX8_noBowls 0 = .ok (.aload_n 0, 1) := by decide +kernel
theorem dX8_noBowls_1 : decode cX8_noBowls 1 = .ok (.iload_n 1, 1) := by decide +kernel
theorem dX8_noBowls_2 : decode cX8_noBowls 2 = .ok (.iload_n 2, 1) := by decide +kernel
theorem dX8_noBowls_3 : decode cX8_noBowls 3 = .ok (.iconst 1, 1) := by decide +kernel
theorem dX8_noBowls_4 : decode cX8_noBowls 4 = .ok (.invokevirtual 306, 3) := by decide +kernel
theorem dX8_noBowls_7 : decode cX8_noBowls 7 = .ok (.istore_n 3, 1) := by decide +kernel
theorem dX8_noBowls_8 : decode cX8_noBowls 8 = .ok (.iload_n 3, 1) := by decide +kernel
theorem dX8_noBowls_9 : decode cX8_noBowls 9 = .ok (.ifCond .eq 5, 3) := by decide +kernel
theorem dX8_noBowls_12 : decode cX8_noBowls 12 = .ok (.iload_n 3, 1) := by decide +kernel
theorem dX8_noBowls_13 : decode cX8_noBowls 13 = .ok (.ireturn, 1) := by decide +kernel
theorem dX8_noBowls_14 : decode cX8_noBowls 14 = .ok (.aload_n 0, 1) := by decide +kernel
theorem dX8_noBowls_15 : decode cX8_noBowls 15 = .ok (.iload_n 1, 1) := by decide +kernel
theorem dX8_noBowls_16 : decode cX8_noBowls 16 = .ok (.iload_n 2, 1) := by decide +kernel
theorem dX8_noBowls_17 : decode cX8_noBowls 17 = .ok (.invokevirtual 322, 3) := by decide +kernel
theorem dX8_noBowls_20 : decode cX8_noBowls 20 = .ok (.iconst (-1), 1) := by decide +kernel
theorem dX8_noBowls_21 : decode cX8_noBowls 21 = .ok (.if_icmp .ne 7, 3) := by decide +kernel
theorem dX8_noBowls_24 : decode cX8_noBowls 24 = .ok (.iconst 0, 1) := by decide +kernel
theorem dX8_noBowls_25 : decode cX8_noBowls 25 = .ok (.goto 9, 3) := by decide +kernel
theorem dX8_noBowls_28 : decode cX8_noBowls 28 = .ok (.aload_n 0, 1) := by decide +kernel
theorem dX8_noBowls_29 : decode cX8_noBowls 29 = .ok (.bipush (-5), 2) := by decide +kernel
theorem dX8_noBowls_31 : decode cX8_noBowls 31 = .ok (.invokevirtual 101, 3) := by decide +kernel
theorem dX8_noBowls_34 : decode cX8_noBowls 34 = .ok (.ireturn, 1) := by decide +kernel
theorem dX8_countOrders_0 : decode cX8_countOrders 0 = .ok (.iconst 1, 1) := by decide +kernel
theorem dX8_countOrders_1 : decode cX8_countOrders 1 = .ok (.aload_n 0, 1) := by decide +kernel
theorem dX8_countOrders_2 : decode cX8_countOrders 2 = .ok (.getfield 88, 3) := by decide +kernel
theorem dX8_countOrders_5 : decode cX8_countOrders 5 = .ok (.ishl, 1) := by decide +kernel
theorem dX8_countOrders_6 : decode cX8_countOrders 6 = .ok (.iconst 1, 1) := by decide +kernel
theorem dX8_countOrders_7 : decode cX8_countOrders 7 = .ok (.isub, 1) := by decide +kernel
theorem dX8_countOrders_8 : decode cX8_countOrders 8 = .ok (.istore_n 3, 1) := by decide +kernel
theorem dX8_countOrders_9 : decode cX8_countOrders 9 = .ok (.aload_n 0, 1) := by decide +kernel
theorem dX8_countOrders_10 : decode cX8_countOrders 10 = .ok (.getfield 80, 3) := by decide +kernel
theorem dX8_countOrders_13 : decode cX8_countOrders 13 = .ok (.iconst 0, 1) := by decide +kernel
theorem dX8_countOrders_14 : decode cX8_countOrders 14 = .ok (.iconst 1, 1) := by decide +kernel
theorem dX8_countOrders_15 : decode cX8_countOrders 15 = .ok (.iastore, 1) := by decide +kernel
theorem dX8_countOrders_16 : decode cX8_countOrders 16 = .ok (.iconst 1, 1) := by decide +kernel
theorem dX8_countOrders_17 : decode cX8_countOrders 17 = .ok (.istore 4, 2) := by decide +kernel
theorem dX8_countOrders_19 : decode cX8_countOrders 19 = .ok (.iload 4, 2) := by decide +kernel
theorem dX8_countOrders_21 : decode cX8_countOrders 21 = .ok (.iload_n 3, 1) := by decide +kernel
theorem dX8_countOrders_22 : decode cX8_countOrders 22 = .ok (.if_icmp .gt 115, 3) := by decide +kernel
theorem dX8_countOrders_25 : decode cX8_countOrders 25 = .ok (.aload_n 0, 1) := by decide +kernel
theorem dX8_countOrders_26 : decode cX8_countOrders 26 = .ok (.getfield 80, 3) := by decide +kernel
theorem dX8_countOrders_29 : decode cX8_countOrders 29 = .ok (.iload 4, 2) := by decide +kernel
theorem dX8_countOrders_31 : decode cX8_countOrders 31 = .ok (.iconst 0, 1) := by decide +kernel
theorem dX8_countOrders_32 : decode cX8_countOrders 32 = .ok (.iastore, 1) := by decide +kernel
theorem dX8_countOrders_33 : decode cX8_countOrders 33 = .ok (.iconst 0, 1) := by decide +kernel
theorem dX8_countOrders_34 : decode cX8_countOrders 34 = .ok (.istore 5, 2) := by decide +kernel
theorem dX8_countOrders_36 : decode cX8_countOrders 36 = .ok (.iload 5, 2) := by decide +kernel
theorem dX8_countOrders_38 : decode cX8_countOrders 38 = .ok (.aload_n 0, 1) := by decide +kernel
theorem dX8_countOrders_39 : decode cX8_countOrders 39 = .ok (.getfield 88, 3) := by decide +kernel
theorem dX8_countOrders_42 : decode cX8_countOrders 42 = .ok (.if_icmp .ge 89, 3) := by decide +kernel
theorem dX8_countOrders_45 : decode cX8_countOrders 45 = .ok (.iload 4, 2) := by decide +kernel
theorem dX8_countOrders_47 : decode cX8_countOrders 47 = .ok (.iload 5, 2) := by decide +kernel
theorem dX8_countOrders_49 : decode cX8_countOrders 49 = .ok (.ishr, 1) := by decide +kernel
theorem dX8_countOrders_50 : decode cX8_countOrders 50 = .ok (.iconst 1, 1) := by decide +kernel
theorem dX8_countOrders_51 : decode cX8_countOrders 51 = .ok (.iand, 1) := by decide +kernel
theorem dX8_countOrders_52 : decode cX8_countOrders 52 = .ok (.iconst 1, 1) := by decide +kernel
theorem dX8_countOrders_53 : decode cX8_countOrders 53 = .ok (.if_icmp .ne 36, 3) := by decide +kernel
theorem dX8_countOrders_56 : decode cX8_countOrders 56 = .ok (.aload_n 0, 1) := by decide +kernel
theorem dX8_countOrders_57 : decode cX8_countOrders 57 = .ok (.getfield 77, 3) := by decide +kernel
theorem dX8_countOrders_60 : decode cX8_countOrders 60 = .ok (.iload 5, 2) := by decide +kernel
theorem dX8_countOrders_62 : decode cX8_countOrders 62 = .ok (.iaload, 1) := by decide +kernel
theorem dX8_countOrders_63 : decode cX8_countOrders 63 = .ok (.iload 4, 2) := by decide +kernel
theorem dX8_countOrders_65 : decode cX8_countOrders 65 = .ok (.iand, 1) := by decide +kernel
theorem dX8_countOrders_66 : decode cX8_countOrders 66 = .ok (.ifCond .ne 23, 3) := by decide +kernel
theorem dX8_countOrders_69 : decode cX8_countOrders 69 = .ok (.iload 5, 2) := by decide +kernel
theorem dX8_countOrders_71 : decode cX8_countOrders 71 = .ok (.iload_n 1, 1) := by decide +kernel
theorem dX8_countOrders_72 : decode cX8_countOrders 72 = .ok (.if_icmp .ne 13, 3) := by decide +kernel
theorem dX8_countOrders_75 : decode cX8_countOrders 75 = .ok (.iload 4, 2) := by decide +kernel
theorem dX8_countOrders_77 : decode cX8_countOrders 77 = .ok (.iload_n 2, 1) := by decide +kernel
theorem dX8_countOrders_78 : decode cX8_countOrders 78 = .ok (.ishr, 1) := by decide +kernel
theorem dX8_countOrders_79 : decode cX8_countOrders 79 = .ok (.iconst 1, 1) := by decide +kernel
theorem dX8_countOrders_80 : decode cX8_countOrders 80 = .ok (.iand, 1) := by decide +kernel
theorem dX8_countOrders_81 : decode cX8_countOrders 81 = .ok (.iconst 1, 1) := by decide +kernel
theorem dX8_countOrders_82 : decode cX8_countOrders 82 = .ok (.if_icmp .eq 7, 3) := by decide +kernel
theorem dX8_countOrders_85 : decode cX8_countOrders 85 = .ok (.iconst 1, 1) := by decide +kernel
theorem dX8_countOrders_86 : decode cX8_countOrders 86 = .ok (.goto 4, 3) := by decide +kernel
theorem dX8_countOrders_89 : decode cX8_countOrders 89 = .ok (.iconst 0, 1) := by decide +kernel
theorem dX8_countOrders_90 : decode cX8_countOrders 90 = .ok (.istore 6, 2) := by decide +kernel
theorem dX8_countOrders_92 : decode cX8_countOrders 92 = .ok (.aload_n 0, 1) := by decide +kernel
theorem dX8_countOrders_93 : decode cX8_countOrders 93 = .ok (.getfield 80, 3) := by decide +kernel
theorem dX8_countOrders_96 : decode cX8_countOrders 96 = .ok (.iload 4, 2) := by decide +kernel
theorem dX8_countOrders_98 : decode cX8_countOrders 98 = .ok (.dup2, 1) := by decide +kernel
theorem dX8_countOrders_99 : decode cX8_countOrders 99 = .ok (.iaload, 1) := by decide +kernel
theorem dX8_countOrders_100 : decode cX8_countOrders 100 = .ok (.iload 6, 2) := by decide +kernel
theorem dX8_countOrders_102 : decode cX8_countOrders 102 = .ok (.ifCond .eq 20, 3) := by decide +kernel
theorem dX8_countOrders_105 : decode cX8_countOrders 105 = .ok (.aload_n 0, 1) := by decide +kernel
theorem dX8_countOrders_106 : decode cX8_countOrders 106 = .ok (.getfield 80, 3) := by decide +kernel
theorem dX8_countOrders_109 : decode cX8_countOrders 109 = .ok (.iload 4, 2) := by decide +kernel
theorem dX8_countOrders_111 : decode cX8_countOrders 111 = .ok (.iconst 1, 1) := by decide +kernel
theorem dX8_countOrders_112 : decode cX8_countOrders 112 = .ok (.iload 5, 2) := by decide +kernel
theorem dX8_countOrders_114 : decode cX8_countOrders 114 = .ok (.ishl, 1) := by decide +kernel
theorem dX8_countOrders_115 : decode cX8_countOrders 115 = .ok (.iconst (-1), 1) := by decide +kernel
theorem dX8_countOrders_116 : decode cX8_countOrders 116 = .ok (.ixor, 1) := by decide +kernel
theorem dX8_countOrders_117 : decode cX8_countOrders 117 = .ok (.iand, 1) := by decide +kernel
theorem dX8_countOrders_118 : decode cX8_countOrders 118 = .ok (.iaload, 1) := by decide +kernel
theorem dX8_countOrders_119 : decode cX8_countOrders 119 = .ok (.goto 4, 3) := by decide +kernel
theorem dX8_countOrders_122 : decode cX8_countOrders 122 = .ok (.iconst 0, 1) := by decide +kernel
theorem dX8_countOrders_123 : decode cX8_countOrders 123 = .ok (.iadd, 1) := by decide +kernel
theorem dX8_countOrders_124 : decode cX8_countOrders 124 = .ok (.iastore, 1) := by decide +kernel
theorem dX8_countOrders_125 : decode cX8_countOrders 125 = .ok (.iinc 5 1, 3) := by decide +kernel
theorem dX8_countOrders_128 : decode cX8_countOrders 128 = .ok (.goto (-92), 3) := by decide +kernel
theorem dX8_countOrders_131 : decode cX8_countOrders 131 = .ok (.iinc 4 1, 3) := by decide +kernel
theorem dX8_countOrders_134 : decode cX8_countOrders 134 = .ok (.goto (-115), 3) := by decide +kernel
theorem dX8_countOrders_137 : decode cX8_countOrders 137 = .ok (.aload_n 0, 1) := by decide +kernel
theorem dX8_countOrders_138 : decode cX8_countOrders 138 = .ok (.getfield 80, 3) := by decide +kernel
theorem dX8_countOrders_141 : decode cX8_countOrders 141 = .ok (.iload_n 3, 1) := by decide +kernel
theorem dX8_countOrders_142 : decode cX8_countOrders 142 = .ok (.iaload, 1) := by decide +kernel
theorem dX8_countOrders_143 : decode cX8_countOrders 143 = .ok (.ireturn, 1) := by decide +kernel
theorem dX8_orders_0 : decode cX8_orders 0 = .ok (.aload_n 0, 1) := by decide +kernel
theorem dX8_orders_1 : decode cX8_orders 1 = .ok (.iload_n 1, 1) := by decide +kernel
theorem dX8_orders_2 : decode cX8_orders 2 = .ok (.iload_n 2, 1) := by decide +kernel
theorem dX8_orders_3 : decode cX8_orders 3 = .ok (.invokevirtual 326, 3) := by decide +kernel
theorem dX8_orders_6 : decode cX8_orders 6 = .ok (.istore_n 3, 1) := by decide +kernel
theorem dX8_orders_7 : decode cX8_orders 7 = .ok (.iload_n 3, 1) := by decide +kernel
theorem dX8_orders_8 : decode cX8_orders 8 = .ok (.ifCond .eq 7, 3) := by decide +kernel
theorem dX8_orders_11 : decode cX8_orders 11 = .ok (.iload_n 3, 1) := by decide +kernel
theorem dX8_orders_12 : decode cX8_orders 12 = .ok (.goto 9, 3) := by decide +kernel
theorem dX8_orders_15 : decode cX8_orders 15 = .ok (.aload_n 0, 1) := by decide +kernel
theorem dX8_orders_16 : decode cX8_orders 16 = .ok (.iconst (-1), 1) := by decide +kernel
theorem dX8_orders_17 : decode cX8_orders 17 = .ok (.iconst (-1), 1) := by decide +kernel
theorem dX8_orders_18 : decode cX8_orders 18 = .ok (.invokevirtual 329, 3) := by decide +kernel
theorem dX8_orders_21 : decode cX8_orders 21 = .ok (.ireturn, 1) := by decide +kernel
theorem dX8_next_0 : decode cX8_next 0 = .ok (.aload_n 0, 1) := by decide +kernel
theorem dX8_next_1 : decode cX8_next 1 = .ok (.iload_n 1, 1) := by decide +kernel
theorem dX8_next_2 : decode cX8_next 2 = .ok (.iload_n 2, 1) := by decide +kernel
theorem dX8_next_3 : decode cX8_next 3 = .ok (.invokevirtual 326, 3) := by decide +kernel
theorem dX8_next_6 : decode cX8_next 6 = .ok (.istore_n 3, 1) := by decide +kernel
theorem dX8_next_7 : decode cX8_next 7 = .ok (.iload_n 3, 1) := by decide +kernel
theorem dX8_next_8 : decode cX8_next 8 = .ok (.ifCond .eq 5, 3) := by decide +kernel
theorem dX8_next_11 : decode cX8_next 11 = .ok (.iload_n 3, 1) := by decide +kernel
theorem dX8_next_12 : decode cX8_next 12 = .ok (.ireturn, 1) := by decide +kernel
theorem dX8_next_13 : decode cX8_next 13 = .ok (.iconst (-1), 1) := by decide +kernel
theorem dX8_next_14 : decode cX8_next 14 = .ok (.istore 4, 2) := by decide +kernel
theorem dX8_next_16 : decode cX8_next 16 = .ok (.iconst 0, 1) := by decide +kernel
theorem dX8_next_17 : decode cX8_next 17 = .ok (.istore 5, 2) := by decide +kernel
theorem dX8_next_19 : decode cX8_next 19 = .ok (.iconst 0, 1) := by decide +kernel
theorem dX8_next_20 : decode cX8_next 20 = .ok (.istore 6, 2) := by decide +kernel
theorem dX8_next_22 : decode cX8_next 22 = .ok (.iload 6, 2) := by decide +kernel
theorem dX8_next_24 : decode cX8_next 24 = .ok (.aload_n 0, 1) := by decide +kernel
theorem dX8_next_25 : decode cX8_next 25 = .ok (.getfield 88, 3) := by decide +kernel
theorem dX8_next_28 : decode cX8_next 28 = .ok (.if_icmp .ge 146, 3) := by decide +kernel
theorem dX8_next_31 : decode cX8_next 31 = .ok (.iload 6, 2) := by decide +kernel
theorem dX8_next_33 : decode cX8_next 33 = .ok (.iconst 1, 1) := by decide +kernel
theorem dX8_next_34 : decode cX8_next 34 = .ok (.iadd, 1) := by decide +kernel
theorem dX8_next_35 : decode cX8_next 35 = .ok (.istore 7, 2) := by decide +kernel
theorem dX8_next_37 : decode cX8_next 37 = .ok (.iload 7, 2) := by decide +kernel
theorem dX8_next_39 : decode cX8_next 39 = .ok (.aload_n 0, 1) := by decide +kernel
theorem dX8_next_40 : decode cX8_next 40 = .ok (.getfield 88, 3) := by decide +kernel
theorem dX8_next_43 : decode cX8_next 43 = .ok (.if_icmp .ge 125, 3) := by decide +kernel
theorem dX8_next_46 : decode cX8_next 46 = .ok (.aload_n 0, 1) := by decide +kernel
theorem dX8_next_47 : decode cX8_next 47 = .ok (.getfield 77, 3) := by decide +kernel
theorem dX8_next_50 : decode cX8_next 50 = .ok (.iload 6, 2) := by decide +kernel
theorem dX8_next_52 : decode cX8_next 52 = .ok (.iaload, 1) := by decide +kernel
theorem dX8_next_53 : decode cX8_next 53 = .ok (.iload 7, 2) := by decide +kernel
theorem dX8_next_55 : decode cX8_next 55 = .ok (.ishr, 1) := by decide +kernel
theorem dX8_next_56 : decode cX8_next 56 = .ok (.iconst 1, 1) := by decide +kernel
theorem dX8_next_57 : decode cX8_next 57 = .ok (.iand, 1) := by decide +kernel
theorem dX8_next_58 : decode cX8_next 58 = .ok (.ifCond .ne 104, 3) := by decide +kernel
theorem dX8_next_61 : decode cX8_next 61 = .ok (.aload_n 0, 1) := by decide +kernel
theorem dX8_next_62 : decode cX8_next 62 = .ok (.getfield 77, 3) := by decide +kernel
theorem dX8_next_65 : decode cX8_next 65 = .ok (.iload 7, 2) := by decide +kernel
theorem dX8_next_67 : decode cX8_next 67 = .ok (.iaload, 1) := by decide +kernel
theorem dX8_next_68 : decode cX8_next 68 = .ok (.iload 6, 2) := by decide +kernel
theorem dX8_next_70 : decode cX8_next 70 = .ok (.ishr, 1) := by decide +kernel
theorem dX8_next_71 : decode cX8_next 71 = .ok (.iconst 1, 1) := by decide +kernel
theorem dX8_next_72 : decode cX8_next 72 = .ok (.iand, 1) := by decide +kernel
theorem dX8_next_73 : decode cX8_next 73 = .ok (.ifCond .ne 89, 3) := by decide +kernel
theorem dX8_next_76 : decode cX8_next 76 = .ok (.aload_n 0, 1) := by decide +kernel
theorem dX8_next_77 : decode cX8_next 77 = .ok (.iload 6, 2) := by decide +kernel
theorem dX8_next_79 : decode cX8_next 79 = .ok (.iload 7, 2) := by decide +kernel
theorem dX8_next_81 : decode cX8_next 81 = .ok (.invokevirtual 329, 3) := by decide +kernel
theorem dX8_next_84 : decode cX8_next 84 = .ok (.istore 8, 2) := by decide +kernel
theorem dX8_next_86 : decode cX8_next 86 = .ok (.aload_n 0, 1) := by decide +kernel
theorem dX8_next_87 : decode cX8_next 87 = .ok (.iload 7, 2) := by decide +kernel
theorem dX8_next_89 : decode cX8_next 89 = .ok (.iload 6, 2) := by decide +kernel
theorem dX8_next_91 : decode cX8_next 91 = .ok (.invokevirtual 329, 3) := by decide +kernel
theorem dX8_next_94 : decode cX8_next 94 = .ok (.istore 9, 2) := by decide +kernel
theorem dX8_next_96 : decode cX8_next 96 = .ok (.iload 8, 2) := by decide +kernel
