theorem dX5_takesAllOf_5 : decode cX5_takesAllOf 5 = .ok (.getfield 15, 3) := by decide +kernel
theorem dX5_takesAllOf_8 : decode cX5_takesAllOf 8 = .ok (.if_icmp .ge 42, 3) := by decide +kernel
theorem dX5_takesAllOf_11 : decode cX5_takesAllOf 11 = .ok (.aload_n 0, 1) := by decide +kernel
theorem dX5_takesAllOf_12 : decode cX5_takesAllOf 12 = .ok (.getfield 9, 3) := by decide +kernel
theorem dX5_takesAllOf_15 : decode cX5_takesAllOf 15 = .ok (.aload_n 0, 1) := by decide +kernel
theorem dX5_takesAllOf_16 : decode cX5_takesAllOf 16 = .ok (.getfield 25, 3) := by decide +kernel
theorem dX5_takesAllOf_19 : decode cX5_takesAllOf 19 = .ok (.iaload, 1) := by decide +kernel
theorem dX5_takesAllOf_20 : decode cX5_takesAllOf 20 = .ok (.iload_n 1, 1) := by decide +kernel
theorem dX5_takesAllOf_21 : decode cX5_takesAllOf 21 = .ok (.if_icmp .lt 29, 3) := by decide +kernel
theorem dX5_takesAllOf_24 : decode cX5_takesAllOf 24 = .ok (.aload_n 0, 1) := by decide +kernel
theorem dX5_takesAllOf_25 : decode cX5_takesAllOf 25 = .ok (.getfield 9, 3) := by decide +kernel
theorem dX5_takesAllOf_28 : decode cX5_takesAllOf 28 = .ok (.aload_n 0, 1) := by decide +kernel
theorem dX5_takesAllOf_29 : decode cX5_takesAllOf 29 = .ok (.getfield 25, 3) := by decide +kernel
theorem dX5_takesAllOf_32 : decode cX5_takesAllOf 32 = .ok (.iaload, 1) := by decide +kernel
theorem dX5_takesAllOf_33 : decode cX5_takesAllOf 33 = .ok (.iload_n 2, 1) := by decide +kernel
theorem dX5_takesAllOf_34 : decode cX5_takesAllOf 34 = .ok (.if_icmp .gt 16, 3) := by decide +kernel
theorem dX5_takesAllOf_37 : decode cX5_takesAllOf 37 = .ok (.aload_n 0, 1) := by decide +kernel
theorem dX5_takesAllOf_38 : decode cX5_takesAllOf 38 = .ok (.dup, 1) := by decide +kernel
theorem dX5_takesAllOf_39 : decode cX5_takesAllOf 39 = .ok (.getfield 25, 3) := by decide +kernel
theorem dX5_takesAllOf_42 : decode cX5_takesAllOf 42 = .ok (.iconst 1, 1) := by decide +kernel
theorem dX5_takesAllOf_43 : decode cX5_takesAllOf 43 = .ok (.iadd, 1) := by decide +kernel
theorem dX5_takesAllOf_44 : decode cX5_takesAllOf 44 = .ok (.putfield 25, 3) := by decide +kernel
theorem dX5_takesAllOf_47 : decode cX5_takesAllOf 47 = .ok (.goto (-47), 3) := by decide +kernel
theorem dX5_takesAllOf_50 : decode cX5_takesAllOf 50 = .ok (.aload_n 0, 1) := by decide +kernel
theorem dX5_takesAllOf_51 : decode cX5_takesAllOf 51 = .ok (.getfield 25, 3) := by decide +kernel
theorem dX5_takesAllOf_54 : decode cX5_takesAllOf 54 = .ok (.aload_n 0, 1) := by decide +kernel
theorem dX5_takesAllOf_55 : decode cX5_takesAllOf 55 = .ok (.getfield 22, 3) := by decide +kernel
theorem dX5_takesAllOf_58 : decode cX5_takesAllOf 58 = .ok (.if_icmp .le 7, 3) := by decide +kernel
theorem dX5_takesAllOf_61 : decode cX5_takesAllOf 61 = .ok (.iconst 1, 1) := by decide +kernel
theorem dX5_takesAllOf_62 : decode cX5_takesAllOf 62 = .ok (.goto 4, 3) := by decide +kernel
theorem dX5_takesAllOf_65 : decode cX5_takesAllOf 65 = .ok (.iconst 0, 1) := by decide +kernel
theorem dX5_takesAllOf_66 : decode cX5_takesAllOf 66 = .ok (.ireturn, 1) := by decide +kernel
theorem dX5_readStatement_0 : decode cX5_readStatement 0 = .ok (.aload_n 0, 1) := by decide +kernel
theorem dX5_readStatement_1 : decode cX5_readStatement 1 = .ok (.ldc 43, 2) := by decide +kernel
theorem dX5_readStatement_3 : decode cX5_readStatement 3 = .ok (.invokevirtual 45, 3) := by decide +kernel
theorem dX5_readStatement_6 : decode cX5_readStatement 6 = .ok (.ifCond .eq 24, 3) := by decide +kernel
theorem dX5_readStatement_9 : decode cX5_readStatement 9 = .ok (.aload_n 1, 1) := by decide +kernel
theorem dX5_readStatement_10 : decode cX5_readStatement 10 = .ok (.invokevirtual 49, 3) := by decide +kernel
theorem dX5_readStatement_13 : decode cX5_readStatement 13 = .ok (.ifCond .ne 15, 3) := by decide +kernel
theorem dX5_readStatement_16 : decode cX5_readStatement 16 = .ok (.aload_n 0, 1) := by decide +kernel
theorem dX5_readStatement_17 : decode cX5_readStatement 17 = .ok (.aload_n 1, 1) := by decide +kernel
theorem dX5_readStatement_18 : decode cX5_readStatement 18 = .ok (.invokevirtual 52, 3) := by decide +kernel
theorem dX5_readStatement_21 : decode cX5_readStatement 21 = .ok (.ifCond .eq 7, 3) := by decide +kernel
theorem dX5_readStatement_24 : decode cX5_readStatement 24 = .ok (.iconst 1, 1) := by decide +kernel
theorem dX5_readStatement_25 : decode cX5_readStatement 25 = .ok (.goto 4, 3) := by decide +kernel
theorem dX5_readStatement_28 : decode cX5_readStatement 28 = .ok (.iconst 0, 1) := by decide +kernel
theorem dX5_readStatement_29 : decode cX5_readStatement 29 = .ok (.ireturn, 1) := by decide +kernel
theorem dX5_readStatement_30 : decode cX5_readStatement 30 = .ok (.aload_n 0, 1) := by decide +kernel
theorem dX5_readStatement_31 : decode cX5_readStatement 31 = .ok (.ldc 55, 2) := by decide +kernel
theorem dX5_readStatement_33 : decode cX5_readStatement 33 = .ok (.invokevirtual 45, 3) := by decide +kernel
theorem dX5_readStatement_36 : decode cX5_readStatement 36 = .ok (.ifCond .eq 18, 3) := by decide +kernel
theorem dX5_readStatement_39 : decode cX5_readStatement 39 = .ok (.aload_n 0, 1) := by decide +kernel
theorem dX5_readStatement_40 : decode cX5_readStatement 40 = .ok (.aload_n 1, 1) := by decide +kernel
theorem dX5_readStatement_41 : decode cX5_readStatement 41 = .ok (.getfield 57, 3) := by decide +kernel
theorem dX5_readStatement_44 : decode cX5_readStatement 44 = .ok (.aload_n 1, 1) := by decide +kernel
theorem dX5_readStatement_45 : decode cX5_readStatement 45 = .ok (.getfield 60, 3) := by decide +kernel
theorem dX5_readStatement_48 : decode cX5_readStatement 48 = .ok (.bipush 40, 2) := by decide +kernel
theorem dX5_readStatement_50 : decode cX5_readStatement 50 = .ok (.invokevirtual 63, 3) := by decide +kernel
theorem dX5_readStatement_53 : decode cX5_readStatement 53 = .ok (.ireturn, 1) := by decide +kernel
theorem dX5_readStatement_54 : decode cX5_readStatement 54 = .ok (.aload_n 0, 1) := by decide +kernel
theorem dX5_readStatement_55 : decode cX5_readStatement 55 = .ok (.ldc 67, 2) := by decide +kernel
theorem dX5_readStatement_57 : decode cX5_readStatement 57 = .ok (.invokevirtual 45, 3) := by decide +kernel
theorem dX5_readStatement_60 : decode cX5_readStatement 60 = .ok (.ifCond .eq 18, 3) := by decide +kernel
theorem dX5_readStatement_63 : decode cX5_readStatement 63 = .ok (.aload_n 0, 1) := by decide +kernel
theorem dX5_readStatement_64 : decode cX5_readStatement 64 = .ok (.aload_n 1, 1) := by decide +kernel
theorem dX5_readStatement_65 : decode cX5_readStatement 65 = .ok (.getfield 69, 3) := by decide +kernel
theorem dX5_readStatement_68 : decode cX5_readStatement 68 = .ok (.aload_n 1, 1) := by decide +kernel
theorem dX5_readStatement_69 : decode cX5_readStatement 69 = .ok (.getfield 60, 3) := by decide +kernel
theorem dX5_readStatement_72 : decode cX5_readStatement 72 = .ok (.bipush 9, 2) := by decide +kernel
theorem dX5_readStatement_74 : decode cX5_readStatement 74 = .ok (.invokevirtual 63, 3) := by decide +kernel
theorem dX5_readStatement_77 : decode cX5_readStatement 77 = .ok (.ireturn, 1) := by decide +kernel
theorem dX5_readStatement_78 : decode cX5_readStatement 78 = .ok (.aload_n 0, 1) := by decide +kernel
theorem dX5_readStatement_79 : decode cX5_readStatement 79 = .ok (.ldc 71, 2) := by decide +kernel
theorem dX5_readStatement_81 : decode cX5_readStatement 81 = .ok (.invokevirtual 45, 3) := by decide +kernel
theorem dX5_readStatement_84 : decode cX5_readStatement 84 = .ok (.ifCond .eq 7, 3) := by decide +kernel
theorem dX5_readStatement_87 : decode cX5_readStatement 87 = .ok (.iconst 0, 1) := by decide +kernel
theorem dX5_readStatement_88 : decode cX5_readStatement 88 = .ok (.goto 43, 3) := by decide +kernel
theorem dX5_readStatement_91 : decode cX5_readStatement 91 = .ok (.aload_n 0, 1) := by decide +kernel
theorem dX5_readStatement_92 : decode cX5_readStatement 92 = .ok (.ldc 73, 2) := by decide +kernel
theorem dX5_readStatement_94 : decode cX5_readStatement 94 = .ok (.invokevirtual 45, 3) := by decide +kernel
theorem dX5_readStatement_97 : decode cX5_readStatement 97 = .ok (.ifCond .eq 7, 3) := by decide +kernel
theorem dX5_readStatement_100 : decode cX5_readStatement 100 = .ok (.iconst 1, 1) := by decide +kernel
theorem dX5_readStatement_101 : decode cX5_readStatement 101 = .ok (.goto 30, 3) := by decide +kernel
theorem dX5_readStatement_104 : decode cX5_readStatement 104 = .ok (.aload_n 0, 1) := by decide +kernel
theorem dX5_readStatement_105 : decode cX5_readStatement 105 = .ok (.ldc 75, 2) := by decide +kernel
theorem dX5_readStatement_107 : decode cX5_readStatement 107 = .ok (.invokevirtual 45, 3) := by decide +kernel
theorem dX5_readStatement_110 : decode cX5_readStatement 110 = .ok (.ifCond .eq 7, 3) := by decide +kernel
theorem dX5_readStatement_113 : decode cX5_readStatement 113 = .ok (.iconst 2, 1) := by decide +kernel
theorem dX5_readStatement_114 : decode cX5_readStatement 114 = .ok (.goto 17, 3) := by decide +kernel
theorem dX5_readStatement_117 : decode cX5_readStatement 117 = .ok (.aload_n 0, 1) := by decide +kernel
theorem dX5_readStatement_118 : decode cX5_readStatement 118 = .ok (.ldc 77, 2) := by decide +kernel
theorem dX5_readStatement_120 : decode cX5_readStatement 120 = .ok (.invokevirtual 45, 3) := by decide +kernel
theorem dX5_readStatement_123 : decode cX5_readStatement 123 = .ok (.ifCond .eq 7, 3) := by decide +kernel
theorem dX5_readStatement_126 : decode cX5_readStatement 126 = .ok (.iconst 3, 1) := by decide +kernel
theorem dX5_readStatement_127 : decode cX5_readStatement 127 = .ok (.goto 4, 3) := by decide +kernel
theorem dX5_readStatement_130 : decode cX5_readStatement 130 = .ok (.iconst (-1), 1) := by decide +kernel
theorem dX5_readStatement_131 : decode cX5_readStatement 131 = .ok (.istore_n 2, 1) := by decide +kernel
theorem dX5_readStatement_132 : decode cX5_readStatement 132 = .ok (.iload_n 2, 1) := by decide +kernel
theorem dX5_readStatement_133 : decode cX5_readStatement 133 = .ok (.iconst (-1), 1) := by decide +kernel
theorem dX5_readStatement_134 : decode cX5_readStatement 134 = .ok (.if_icmp .ne 7, 3) := by decide +kernel
theorem dX5_readStatement_137 : decode cX5_readStatement 137 = .ok (.iconst (-1), 1) := by decide +kernel
theorem dX5_readStatement_138 : decode cX5_readStatement 138 = .ok (.goto 12, 3) := by decide +kernel
theorem dX5_readStatement_141 : decode cX5_readStatement 141 = .ok (.aload_n 0, 1) := by decide +kernel
theorem dX5_readStatement_142 : decode cX5_readStatement 142 = .ok (.getstatic 79, 3) := by decide +kernel
theorem dX5_readStatement_145 : decode cX5_readStatement 145 = .ok (.iload_n 2, 1) := by decide +kernel
theorem dX5_readStatement_146 : decode cX5_readStatement 146 = .ok (.iaload, 1) := by decide +kernel
theorem dX5_readStatement_147 : decode cX5_readStatement 147 = .ok (.invokevirtual 82, 3) := by decide +kernel
theorem dX5_readStatement_150 : decode cX5_readStatement 150 = .ok (.istore_n 3, 1) := by decide +kernel
theorem dX5_readStatement_151 : decode cX5_readStatement 151 = .ok (.iload_n 3, 1) := by decide +kernel
theorem dX5_readStatement_152 : decode cX5_readStatement 152 = .ok (.iconst (-1), 1) := by decide +kernel
theorem dX5_readStatement_153 : decode cX5_readStatement 153 = .ok (.if_icmp .eq 10, 3) := by decide +kernel
theorem dX5_readStatement_156 : decode cX5_readStatement 156 = .ok (.aload_n 1, 1) := by decide +kernel
theorem dX5_readStatement_157 : decode cX5_readStatement 157 = .ok (.iload_n 2, 1) := by decide +kernel
theorem dX5_readStatement_158 : decode cX5_readStatement 158 = .ok (.iload_n 3, 1) := by decide +kernel
theorem dX5_readStatement_159 : decode cX5_readStatement 159 = .ok (.invokevirtual 86, 3) := by decide +kernel
theorem dX5_readStatement_162 : decode cX5_readStatement 162 = .ok (.pop, 1) := by decide +kernel
theorem dX5_readStatement_163 : decode cX5_readStatement 163 = .ok (.iload_n 3, 1) := by decide +kernel
theorem dX5_readStatement_164 : decode cX5_readStatement 164 = .ok (.iconst (-1), 1) := by decide +kernel
theorem dX5_readStatement_165 : decode cX5_readStatement 165 = .ok (.if_icmp .eq 7, 3) := by decide +kernel
theorem dX5_readStatement_168 : decode cX5_readStatement 168 = .ok (.iconst 1, 1) := by decide +kernel
theorem dX5_readStatement_169 : decode cX5_readStatement 169 = .ok (.goto 4, 3) := by decide +kernel
theorem dX5_readStatement_172 : decode cX5_readStatement 172 = .ok (.iconst 0, 1) := by decide +kernel
theorem dX5_readStatement_173 : decode cX5_readStatement 173 = .ok (.ireturn, 1) := by decide +kernel
theorem dX5_isWord_0 : decode cX5_isWord 0 = .ok (.aload_n 0, 1) := by decide +kernel
theorem dX5_isWord_1 : decode cX5_isWord 1 = .ok (.getfield 19, 3) := by decide +kernel
theorem dX5_isWord_4 : decode cX5_isWord 4 = .ok (.iconst 1, 1) := by decide +kernel
theorem dX5_isWord_5 : decode cX5_isWord 5 = .ok (.if_icmp .ne 19, 3) := by decide +kernel
theorem dX5_isWord_8 : decode cX5_isWord 8 = .ok (.aload_n 0, 1) := by decide +kernel
theorem dX5_isWord_9 : decode cX5_isWord 9 = .ok (.getfield 25, 3) := by decide +kernel
theorem dX5_isWord_12 : decode cX5_isWord 12 = .ok (.aload_n 0, 1) := by decide +kernel
theorem dX5_isWord_13 : decode cX5_isWord 13 = .ok (.getfield 22, 3) := by decide +kernel
theorem dX5_isWord_16 : decode cX5_isWord 16 = .ok (.isub, 1) := by decide +kernel
theorem dX5_isWord_17 : decode cX5_isWord 17 = .ok (.aload_n 1, 1) := by decide +kernel
theorem dX5_isWord_18 : decode cX5_isWord 18 = .ok (.invokevirtual 90, 3) := by decide +kernel
theorem dX5_isWord_21 : decode cX5_isWord 21 = .ok (.if_icmp .eq 5, 3) := by decide +kernel
theorem dX5_isWord_24 : decode cX5_isWord 24 = .ok (.iconst 0, 1) := by decide +kernel
theorem dX5_isWord_25 : decode cX5_isWord 25 = .ok (.ireturn, 1) := by decide +kernel
theorem dX5_isWord_26 : decode cX5_isWord 26 = .ok (.iconst 0, 1) := by decide +kernel
theorem dX5_isWord_27 : decode cX5_isWord 27 = .ok (.istore_n 2, 1) := by decide +kernel
theorem dX5_isWord_28 : decode cX5_isWord 28 = .ok (.iload_n 2, 1) := by decide +kernel
theorem dX5_isWord_29 : decode cX5_isWord 29 = .ok (.aload_n 1, 1) := by decide +kernel
theorem dX5_isWord_30 : decode cX5_isWord 30 = .ok (.invokevirtual 90, 3) := by decide +kernel
theorem dX5_isWord_33 : decode cX5_isWord 33 = .ok (.if_icmp .ge 30, 3) := by decide +kernel
theorem dX5_isWord_36 : decode cX5_isWord 36 = .ok (.aload_n 0, 1) := by decide +kernel
theorem dX5_isWord_37 : decode cX5_isWord 37 = .ok (.getfield 9, 3) := by decide +kernel
theorem dX5_isWord_40 : decode cX5_isWord 40 = .ok (.aload_n 0, 1) := by decide +kernel
theorem dX5_isWord_41 : decode cX5_isWord 41 = .ok (.getfield 22, 3) := by decide +kernel
theorem dX5_isWord_44 : decode cX5_isWord 44 = .ok (.iload_n 2, 1) := by decide +kernel
theorem dX5_isWord_45 : decode cX5_isWord 45 = .ok (.iadd, 1) := by decide +kernel
theorem dX5_isWord_46 : decode cX5_isWord 46 = .ok (.iaload, 1) := by decide +kernel
theorem dX5_isWord_47 : decode cX5_isWord 47 = .ok (.aload_n 1, 1) := by decide +kernel
theorem dX5_isWord_48 : decode cX5_isWord 48 = .ok (.iload_n 2, 1) := by decide +kernel
theorem dX5_isWord_49 : decode cX5_isWord 49 = .ok (.invokevirtual 96, 3) := by decide +kernel
theorem dX5_isWord_52 : decode cX5_isWord 52 = .ok (.if_icmp .eq 5, 3) := by decide +kernel
theorem dX5_isWord_55 : decode cX5_isWord 55 = .ok (.iconst 0, 1) := by decide +kernel
theorem dX5_isWord_56 : decode cX5_isWord 56 = .ok (.ireturn, 1) := by decide +kernel
theorem dX5_isWord_57 : decode cX5_isWord 57 = .ok (.iinc 2 1, 3) := by decide +kernel
theorem dX5_isWord_60 : decode cX5_isWord 60 = .ok (.goto (-32), 3) := by decide +kernel
theorem dX5_isWord_63 : decode cX5_isWord 63 = .ok (.iconst 1, 1) := by decide +kernel
theorem dX5_isWord_64 : decode cX5_isWord 64 = .ok (.ireturn, 1) := by decide +kernel
theorem dX5_readPerson_0 : decode cX5_readPerson 0 = .ok (.aload_n 0, 1) := by decide +kernel
theorem dX5_readPerson_1 : decode cX5_readPerson 1 = .ok (.iconst 5, 1) := by decide +kernel
theorem dX5_readPerson_2 : decode cX5_readPerson 2 = .ok (.invokevirtual 82, 3) := by decide +kernel
theorem dX5_readPerson_5 : decode cX5_readPerson 5 = .ok (.istore_n 2, 1) := by decide +kernel
theorem dX5_readPerson_6 : decode cX5_readPerson 6 = .ok (.iload_n 2, 1) := by decide +kernel
theorem dX5_readPerson_7 : decode cX5_readPerson 7 = .ok (.iconst (-1), 1) := by decide +kernel
theorem dX5_readPerson_8 : decode cX5_readPerson 8 = .ok (.if_icmp .ne 7, 3) := by decide +kernel
theorem dX5_readPerson_11 : decode cX5_readPerson 11 = .ok (.iconst (-1), 1) := by decide +kernel
theorem dX5_readPerson_12 : decode cX5_readPerson 12 = .ok (.goto 9, 3) := by decide +kernel
theorem dX5_readPerson_15 : decode cX5_readPerson 15 = .ok (.aload_n 0, 1) := by decide +kernel
theorem dX5_readPerson_16 : decode cX5_readPerson 16 = .ok (.bipush 9, 2) := by decide +kernel
theorem dX5_readPerson_18 : decode cX5_readPerson 18 = .ok (.invokevirtual 82, 3) := by decide +kernel
theorem dX5_readPerson_21 : decode cX5_readPerson 21 = .ok (.istore_n 3, 1) := by decide +kernel
theorem dX5_readPerson_22 : decode cX5_readPerson 22 = .ok (.iload_n 3, 1) := by decide +kernel
theorem dX5_readPerson_23 : decode cX5_readPerson 23 = .ok (.iconst (-1), 1) := by decide +kernel
theorem dX5_readPerson_24 : decode cX5_readPerson 24 = .ok (.if_icmp .ne 7, 3) := by decide +kernel
theorem dX5_readPerson_27 : decode cX5_readPerson 27 = .ok (.iconst (-1), 1) := by decide +kernel
theorem dX5_readPerson_28 : decode cX5_readPerson 28 = .ok (.goto 9, 3) := by decide +kernel
theorem dX5_readPerson_31 : decode cX5_readPerson 31 = .ok (.aload_n 0, 1) := by decide +kernel
theorem dX5_readPerson_32 : decode cX5_readPerson 32 = .ok (.bipush 20, 2) := by decide +kernel
theorem dX5_readPerson_34 : decode cX5_readPerson 34 = .ok (.invokevirtual 82, 3) := by decide +kernel
theorem dX5_readPerson_37 : decode cX5_readPerson 37 = .ok (.istore 4, 2) := by decide +kernel
theorem dX5_readPerson_39 : decode cX5_readPerson 39 = .ok (.iload 4, 2) := by decide +kernel
theorem dX5_readPerson_41 : decode cX5_readPerson 41 = .ok (.iconst (-1), 1) := by decide +kernel
theorem dX5_readPerson_42 : decode cX5_readPerson 42 = .ok (.if_icmp .eq 19, 3) := by decide +kernel
theorem dX5_readPerson_45 : decode cX5_readPerson 45 = .ok (.aload_n 1, 1) := by decide +kernel
theorem dX5_readPerson_46 : decode cX5_readPerson 46 = .ok (.iload_n 2, 1) := by decide +kernel
theorem dX5_readPerson_47 : decode cX5_readPerson 47 = .ok (.iload_n 3, 1) := by decide +kernel
theorem dX5_readPerson_48 : decode cX5_readPerson 48 = .ok (.iload 4, 2) := by decide +kernel
theorem dX5_readPerson_50 : decode cX5_readPerson 50 = .ok (.invokevirtual 100, 3) := by decide +kernel
theorem dX5_readPerson_53 : decode cX5_readPerson 53 = .ok (.iconst (-1), 1) := by decide +kernel
theorem dX5_readPerson_54 : decode cX5_readPerson 54 = .ok (.if_icmp .eq 7, 3) := by decide +kernel
theorem dX5_readPerson_57 : decode cX5_readPerson 57 = .ok (.iconst 1, 1) := by decide +kernel
theorem dX5_readPerson_58 : decode cX5_readPerson 58 = .ok (.goto 4, 3) := by decide +kernel
theorem dX5_readPerson_61 : decode cX5_readPerson 61 = .ok (.iconst 0, 1) := by decide +kernel
theorem dX5_readPerson_62 : decode cX5_readPerson 62 = .ok (.ireturn, 1) := by decide +kernel
theorem dX5_readPortion_0 : decode cX5_readPortion 0 = .ok (.aload_n 0, 1) := by decide +kernel
theorem dX5_readPortion_1 : decode cX5_readPortion 1 = .ok (.iload_n 2, 1) := by decide +kernel
theorem dX5_readPortion_2 : decode cX5_readPortion 2 = .ok (.iconst 1, 1) := by decide +kernel
theorem dX5_readPortion_3 : decode cX5_readPortion 3 = .ok (.isub, 1) := by decide +kernel
theorem dX5_readPortion_4 : decode cX5_readPortion 4 = .ok (.invokevirtual 82, 3) := by decide +kernel
theorem dX5_readPortion_7 : decode cX5_readPortion 7 = .ok (.istore 4, 2) := by decide +kernel
theorem dX5_readPortion_9 : decode cX5_readPortion 9 = .ok (.iload 4, 2) := by decide +kernel
theorem dX5_readPortion_11 : decode cX5_readPortion 11 = .ok (.iconst (-1), 1) := by decide +kernel
theorem dX5_readPortion_12 : decode cX5_readPortion 12 = .ok (.if_icmp .ne 7, 3) := by decide +kernel
theorem dX5_readPortion_15 : decode cX5_readPortion 15 = .ok (.iconst (-1), 1) := by decide +kernel
theorem dX5_readPortion_16 : decode cX5_readPortion 16 = .ok (.goto 8, 3) := by decide +kernel
theorem dX5_readPortion_19 : decode cX5_readPortion 19 = .ok (.aload_n 0, 1) := by decide +kernel
theorem dX5_readPortion_20 : decode cX5_readPortion 20 = .ok (.iload_n 3, 1) := by decide +kernel
theorem dX5_readPortion_21 : decode cX5_readPortion 21 = .ok (.invokevirtual 82, 3) := by decide +kernel
theorem dX5_readPortion_24 : decode cX5_readPortion 24 = .ok (.istore 5, 2) := by decide +kernel
theorem dX5_readPortion_26 : decode cX5_readPortion 26 = .ok (.iload 5, 2) := by decide +kernel
theorem dX5_readPortion_28 : decode cX5_readPortion 28 = .ok (.iconst (-1), 1) := by decide +kernel
theorem dX5_readPortion_29 : decode cX5_readPortion 29 = .ok (.if_icmp .eq 10, 3) := by decide +kernel
theorem dX5_readPortion_32 : decode cX5_readPortion 32 = .ok (.iload 4, 2) := by decide +kernel
theorem dX5_readPortion_34 : decode cX5_readPortion 34 = .ok (.aload_n 1, 1) := by decide +kernel
theorem dX5_readPortion_35 : decode cX5_readPortion 35 = .ok (.arraylength, 1) := by decide +kernel
theorem dX5_readPortion_36 : decode cX5_readPortion 36 = .ok (.if_icmp .lt 5, 3) := by decide +kernel
theorem dX5_readPortion_39 : decode cX5_readPortion 39 = .ok (.iconst 0, 1) := by decide +kernel
theorem dX5_readPortion_40 : decode cX5_readPortion 40 = .ok (.ireturn, 1) := by decide +kernel
theorem dX5_readPortion_41 : decode cX5_readPortion 41 = .ok (.aload_n 1, 1) := by decide +kernel
theorem dX5_readPortion_42 : decode cX5_readPortion 42 = .ok (.iload 4, 2) := by decide +kernel
theorem dX5_readPortion_44 : decode cX5_readPortion 44 = .ok (.iload 5, 2) := by decide +kernel
theorem dX5_readPortion_46 : decode cX5_readPortion 46 = .ok (.iastore, 1) := by decide +kernel
theorem dX5_readPortion_47 : decode cX5_readPortion 47 = .ok (.iconst 1, 1) := by decide +kernel
theorem dX5_readPortion_48 : decode cX5_readPortion 48 = .ok (.ireturn, 1) := by decide +kernel
theorem dX5_readNumber_0 : decode cX5_readNumber 0 = .ok (.aload_n 0, 1) := by decide +kernel
theorem dX5_readNumber_1 : decode cX5_readNumber 1 = .ok (.invokevirtual 32, 3) := by decide +kernel
theorem dX5_readNumber_4 : decode cX5_readNumber 4 = .ok (.aload_n 0, 1) := by decide +kernel
theorem dX5_readNumber_5 : decode cX5_readNumber 5 = .ok (.getfield 19, 3) := by decide +kernel
theorem dX5_readNumber_8 : decode cX5_readNumber 8 = .ok (.iconst 2, 1) := by decide +kernel
theorem dX5_readNumber_9 : decode cX5_readNumber 9 = .ok (.if_icmp .ne 16, 3) := by decide +kernel
theorem dX5_readNumber_12 : decode cX5_readNumber 12 = .ok (.aload_n 0, 1) := by decide +kernel
theorem dX5_readNumber_13 : decode cX5_readNumber 13 = .ok (.getfield 25, 3) := by decide +kernel
theorem dX5_readNumber_16 : decode cX5_readNumber 16 = .ok (.aload_n 0, 1) := by decide +kernel
theorem dX5_readNumber_17 : decode cX5_readNumber 17 = .ok (.getfield 22, 3) := by decide +kernel
theorem dX5_readNumber_20 : decode cX5_readNumber 20 = .ok (.isub, 1) := by decide +kernel
theorem dX5_readNumber_21 : decode cX5_readNumber 21 = .ok (.iconst 3, 1) := by decide +kernel
theorem dX5_readNumber_22 : decode cX5_readNumber 22 = .ok (.if_icmp .le 5, 3) := by decide +kernel
theorem dX5_readNumber_25 : decode cX5_readNumber 25 = .ok (.iconst (-1), 1) := by decide +kernel
theorem dX5_readNumber_26 : decode cX5_readNumber 26 = .ok (.ireturn, 1) := by decide +kernel
theorem dX5_readNumber_27 : decode cX5_readNumber 27 = .ok (.iconst 0, 1) := by decide +kernel
theorem dX5_readNumber_28 : decode cX5_readNumber 28 = .ok (.istore_n 2, 1) := by decide +kernel
theorem dX5_readNumber_29 : decode cX5_readNumber 29 = .ok (.aload_n 0, 1) := by decide +kernel
theorem dX5_readNumber_30 : decode cX5_readNumber 30 = .ok (.getfield 22, 3) := by decide +kernel
theorem dX5_readNumber_33 : decode cX5_readNumber 33 = .ok (.istore_n 3, 1) := by decide +kernel
theorem dX5_readNumber_34 : decode cX5_readNumber 34 = .ok (.iload_n 3, 1) := by decide +kernel
theorem dX5_readNumber_35 : decode cX5_readNumber 35 = .ok (.aload_n 0, 1) := by decide +kernel
theorem dX5_readNumber_36 : decode cX5_readNumber 36 = .ok (.getfield 25, 3) := by decide +kernel
theorem dX5_readNumber_39 : decode cX5_readNumber 39 = .ok (.if_icmp .ge 24, 3) := by decide +kernel
theorem dX5_readNumber_42 : decode cX5_readNumber 42 = .ok (.bipush 10, 2) := by decide +kernel
theorem dX5_readNumber_44 : decode cX5_readNumber 44 = .ok (.iload_n 2, 1) := by decide +kernel
theorem dX5_readNumber_45 : decode cX5_readNumber 45 = .ok (.imul, 1) := by decide +kernel
theorem dX5_readNumber_46 : decode cX5_readNumber 46 = .ok (.aload_n 0, 1) := by decide +kernel
theorem dX5_readNumber_47 : decode cX5_readNumber 47 = .ok (.getfield 9, 3) := by decide +kernel
theorem dX5_readNumber_50 : decode cX5_readNumber 50 = .ok (.iload_n 3, 1) := by decide +kernel
theorem dX5_readNumber_51 : decode cX5_readNumber 51 = .ok (.iaload, 1) := by decide +kernel
theorem dX5_readNumber_52 : decode cX5_readNumber 52 = .ok (.iadd, 1) := by decide +kernel
theorem dX5_readNumber_53 : decode cX5_readNumber 53 = .ok (.bipush 48, 2) := by decide +kernel
theorem dX5_readNumber_55 : decode cX5_readNumber 55 = .ok (.isub, 1) := by decide +kernel
theorem dX5_readNumber_56 : decode cX5_readNumber 56 = .ok (.istore_n 2, 1) := by decide +kernel
theorem dX5_readNumber_57 : decode cX5_readNumber 57 = .ok (.iinc 3 1, 3) := by decide +kernel
theorem dX5_readNumber_60 : decode cX5_readNumber 60 = .ok (.goto (-26), 3) := by decide +kernel
theorem dX5_readNumber_63 : decode cX5_readNumber 63 = .ok (.iload_n 2, 1) := by decide +kernel
theorem dX5_readNumber_64 : decode cX5_readNumber 64 = .ok (.iload_n 1, 1) := by decide +kernel
theorem dX5_readNumber_65 : decode cX5_readNumber 65 = .ok (.if_icmp .gt 7, 3) := by decide +kernel
theorem dX5_readNumber_68 : decode cX5_readNumber 68 = .ok (.iload_n 2, 1) := by decide +kernel
theorem dX5_readNumber_69 : decode cX5_readNumber 69 = .ok (.goto 4, 3) := by decide +kernel
theorem dX5_readNumber_72 : decode cX5_readNumber 72 = .ok (.iconst (-1), 1) := by decide +kernel
theorem dX5_readNumber_73 : decode cX5_readNumber 73 = .ok (.ireturn, 1) := by decide +kernel
theorem dX6_init_0 : decode cX6_init 0 = .ok (.aload_n 0, 1) := by decide +kernel
theorem dX6_init_1 : decode cX6_init 1 = .ok (.invokespecial 3, 3) := by decide +kernel
theorem dX6_init_4 : decode cX6_init 4 = .ok (.aload_n 0, 1) := by decide +kernel
theorem dX6_init_5 : decode cX6_init 5 = .ok (.new 9, 3) := by decide +kernel
theorem dX6_init_8 : decode cX6_init 8 = .ok (.dup, 1) := by decide +kernel
theorem dX6_init_9 : decode cX6_init 9 = .ok (.invokespecial 11, 3) := by decide +kernel
theorem dX6_init_12 : decode cX6_init 12 = .ok (.putfield 12, 3) := by decide +kernel
theorem dX6_init_15 : decode cX6_init 15 = .ok (.aload_n 0, 1) := by decide +kernel
theorem dX6_init_16 : decode cX6_init 16 = .ok (.bipush 8, 2) := by decide +kernel
theorem dX6_init_18 : decode cX6_init 18 = .ok (.newarray .int, 2) := by decide +kernel
theorem dX6_init_20 : decode cX6_init 20 = .ok (.putfield 18, 3) := by decide +kernel
theorem dX6_init_23 : decode cX6_init 23 = .ok (.return_, 1) := by decide +kernel
theorem dX6_canMakeSo_0 : decode cX6_canMakeSo 0 = .ok (.aload_n 0, 1) := by decide +kernel
theorem dX6_canMakeSo_1 : decode cX6_canMakeSo 1 = .ok (.getfield 12, 3) := by decide +kernel
theorem dX6_canMakeSo_4 : decode cX6_canMakeSo 4 = .ok (.aload_n 1, 1) := by decide +kernel
theorem dX6_canMakeSo_5 : decode cX6_canMakeSo 5 = .ok (.invokevirtual 22, 3) := by decide +kernel
theorem dX6_canMakeSo_8 : decode cX6_canMakeSo 8 = .ok (.iconst 0, 1) := by decide +kernel
theorem dX6_canMakeSo_9 : decode cX6_canMakeSo 9 = .ok (.istore_n 3, 1) := by decide +kernel
theorem dX6_canMakeSo_10 : decode cX6_canMakeSo 10 = .ok (.iload_n 3, 1) := by decide +kernel
theorem dX6_canMakeSo_11 : decode cX6_canMakeSo 11 = .ok (.aload_n 0, 1) := by decide +kernel
theorem dX6_canMakeSo_12 : decode cX6_canMakeSo 12 = .ok (.getfield 12, 3) := by decide +kernel
theorem dX6_canMakeSo_15 : decode cX6_canMakeSo 15 = .ok (.getfield 26, 3) := by decide +kernel
theorem dX6_canMakeSo_18 : decode cX6_canMakeSo 18 = .ok (.if_icmp .ge 32, 3) := by decide +kernel
theorem dX6_canMakeSo_21 : decode cX6_canMakeSo 21 = .ok (.aload_n 0, 1) := by decide +kernel
theorem dX6_canMakeSo_22 : decode cX6_canMakeSo 22 = .ok (.getfield 18, 3) := by decide +kernel
theorem dX6_canMakeSo_25 : decode cX6_canMakeSo 25 = .ok (.iload_n 3, 1) := by decide +kernel
theorem dX6_canMakeSo_26 : decode cX6_canMakeSo 26 = .ok (.aload_n 0, 1) := by decide +kernel
theorem dX6_canMakeSo_27 : decode cX6_canMakeSo 27 = .ok (.getfield 12, 3) := by decide +kernel
theorem dX6_canMakeSo_30 : decode cX6_canMakeSo 30 = .ok (.aload_n 0, 1) := by decide +kernel
theorem dX6_canMakeSo_31 : decode cX6_canMakeSo 31 = .ok (.getfield 12, 3) := by decide +kernel
theorem dX6_canMakeSo_34 : decode cX6_canMakeSo 34 = .ok (.getfield 30, 3) := by decide +kernel
theorem dX6_canMakeSo_37 : decode cX6_canMakeSo 37 = .ok (.iload_n 3, 1) := by decide +kernel
theorem dX6_canMakeSo_38 : decode cX6_canMakeSo 38 = .ok (.iaload, 1) := by decide +kernel
theorem dX6_canMakeSo_39 : decode cX6_canMakeSo 39 = .ok (.iload_n 3, 1) := by decide +kernel
theorem dX6_canMakeSo_40 : decode cX6_canMakeSo 40 = .ok (.invokevirtual 33, 3) := by decide +kernel
theorem dX6_canMakeSo_43 : decode cX6_canMakeSo 43 = .ok (.iastore, 1) := by decide +kernel
theorem dX6_canMakeSo_44 : decode cX6_canMakeSo 44 = .ok (.iinc 3 1, 3) := by decide +kernel
theorem dX6_canMakeSo_47 : decode cX6_canMakeSo 47 = .ok (.goto (-37), 3) := by decide +kernel
theorem dX6_canMakeSo_50 : decode cX6_canMakeSo 50 = .ok (.aload_n 0, 1) := by decide +kernel
theorem dX6_canMakeSo_51 : decode cX6_canMakeSo 51 = .ok (.iload_n 2, 1) := by decide +kernel
theorem dX6_canMakeSo_52 : decode cX6_canMakeSo 52 = .ok (.iconst 1, 1) := by decide +kernel
theorem dX6_canMakeSo_53 : decode cX6_canMakeSo 53 = .ok (.invokevirtual 37, 3) := by decide +kernel
theorem dX6_canMakeSo_56 : decode cX6_canMakeSo 56 = .ok (.ireturn, 1) := by decide +kernel
theorem dX6_comesSo_0 : decode cX6_comesSo 0 = .ok (.iload_n 1, 1) := by decide +kernel
theorem dX6_comesSo_1 : decode cX6_comesSo 1 = .ok (.ifCond .gt 8, 3) := by decide +kernel
theorem dX6_comesSo_4 : decode cX6_comesSo 4 = .ok (.aload_n 0, 1) := by decide +kernel
theorem dX6_comesSo_5 : decode cX6_comesSo 5 = .ok (.invokevirtual 41, 3) := by decide +kernel
theorem dX6_comesSo_8 : decode cX6_comesSo 8 = .ok (.ireturn, 1) := by decide +kernel
theorem dX6_comesSo_9 : decode cX6_comesSo 9 = .ok (.aload_n 0, 1) := by decide +kernel
theorem dX6_comesSo_10 : decode cX6_comesSo 10 = .ok (.iload_n 1, 1) := by decide +kernel
theorem dX6_comesSo_11 : decode cX6_comesSo 11 = .ok (.iconst 1, 1) := by decide +kernel
theorem dX6_comesSo_12 : decode cX6_comesSo 12 = .ok (.isub, 1) := by decide +kernel
theorem dX6_comesSo_13 : decode cX6_comesSo 13 = .ok (.iload_n 2, 1) := by decide +kernel
theorem dX6_comesSo_14 : decode cX6_comesSo 14 = .ok (.ifCond .ne 7, 3) := by decide +kernel
theorem dX6_comesSo_17 : decode cX6_comesSo 17 = .ok (.iconst 1, 1) := by decide +kernel
theorem dX6_comesSo_18 : decode cX6_comesSo 18 = .ok (.goto 4, 3) := by decide +kernel
theorem dX6_comesSo_21 : decode cX6_comesSo 21 = .ok (.iconst 0, 1) := by decide +kernel
theorem dX6_comesSo_22 : decode cX6_comesSo 22 = .ok (.invokevirtual 37, 3) := by decide +kernel
theorem dX6_comesSo_25 : decode cX6_comesSo 25 = .ok (.iload_n 2, 1) := by decide +kernel
theorem dX6_comesSo_26 : decode cX6_comesSo 26 = .ok (.if_icmp .ne 5, 3) := by decide +kernel
theorem dX6_comesSo_29 : decode cX6_comesSo 29 = .ok (.iload_n 2, 1) := by decide +kernel
theorem dX6_comesSo_30 : decode cX6_comesSo 30 = .ok (.ireturn, 1) := by decide +kernel
theorem dX6_comesSo_31 : decode cX6_comesSo 31 = .ok (.iconst 0, 1) := by decide +kernel
theorem dX6_comesSo_32 : decode cX6_comesSo 32 = .ok (.istore_n 3, 1) := by decide +kernel
theorem dX6_comesSo_33 : decode cX6_comesSo 33 = .ok (.iload_n 3, 1) := by decide +kernel
theorem dX6_comesSo_34 : decode cX6_comesSo 34 = .ok (.aload_n 0, 1) := by decide +kernel
theorem dX6_comesSo_35 : decode cX6_comesSo 35 = .ok (.getfield 12, 3) := by decide +kernel
theorem dX6_comesSo_38 : decode cX6_comesSo 38 = .ok (.getfield 26, 3) := by decide +kernel
theorem dX6_comesSo_41 : decode cX6_comesSo 41 = .ok (.if_icmp .ge 66, 3) := by decide +kernel
theorem dX6_comesSo_44 : decode cX6_comesSo 44 = .ok (.aload_n 0, 1) := by decide +kernel
theorem dX6_comesSo_45 : decode cX6_comesSo 45 = .ok (.getfield 12, 3) := by decide +kernel
theorem dX6_comesSo_48 : decode cX6_comesSo 48 = .ok (.getfield 45, 3) := by decide +kernel
theorem dX6_comesSo_51 : decode cX6_comesSo 51 = .ok (.iload_n 3, 1) := by decide +kernel
theorem dX6_comesSo_52 : decode cX6_comesSo 52 = .ok (.iaload, 1) := by decide +kernel
theorem dX6_comesSo_53 : decode cX6_comesSo 53 = .ok (.istore 4, 2) := by decide +kernel
theorem dX6_comesSo_55 : decode cX6_comesSo 55 = .ok (.iload 4, 2) := by decide +kernel
theorem dX6_comesSo_57 : decode cX6_comesSo 57 = .ok (.bipush 40, 2) := by decide +kernel
theorem dX6_comesSo_59 : decode cX6_comesSo 59 = .ok (.if_icmp .ge 20, 3) := by decide +kernel
theorem dX6_comesSo_62 : decode cX6_comesSo 62 = .ok (.aload_n 0, 1) := by decide +kernel
theorem dX6_comesSo_63 : decode cX6_comesSo 63 = .ok (.iload_n 3, 1) := by decide +kernel
theorem dX6_comesSo_64 : decode cX6_comesSo 64 = .ok (.iload 4, 2) := by decide +kernel
theorem dX6_comesSo_66 : decode cX6_comesSo 66 = .ok (.iconst 1, 1) := by decide +kernel
theorem dX6_comesSo_67 : decode cX6_comesSo 67 = .ok (.iadd, 1) := by decide +kernel
theorem dX6_comesSo_68 : decode cX6_comesSo 68 = .ok (.iload_n 1, 1) := by decide +kernel
theorem dX6_comesSo_69 : decode cX6_comesSo 69 = .ok (.iload_n 2, 1) := by decide +kernel
theorem dX6_comesSo_70 : decode cX6_comesSo 70 = .ok (.invokevirtual 48, 3) := by decide +kernel
theorem dX6_comesSo_73 : decode cX6_comesSo 73 = .ok (.iload_n 2, 1) := by decide +kernel
theorem dX6_comesSo_74 : decode cX6_comesSo 74 = .ok (.if_icmp .ne 5, 3) := by decide +kernel
theorem dX6_comesSo_77 : decode cX6_comesSo 77 = .ok (.iload_n 2, 1) := by decide +kernel
theorem dX6_comesSo_78 : decode cX6_comesSo 78 = .ok (.ireturn, 1) := by decide +kernel
theorem dX6_comesSo_79 : decode cX6_comesSo 79 = .ok (.iload 4, 2) := by decide +kernel
theorem dX6_comesSo_81 : decode cX6_comesSo 81 = .ok (.ifCond .le 20, 3) := by decide +kernel
theorem dX6_comesSo_84 : decode cX6_comesSo 84 = .ok (.aload_n 0, 1) := by decide +kernel
theorem dX6_comesSo_85 : decode cX6_comesSo 85 = .ok (.iload_n 3, 1) := by decide +kernel
theorem dX6_comesSo_86 : decode cX6_comesSo 86 = .ok (.iload 4, 2) := by decide +kernel
theorem dX6_comesSo_88 : decode cX6_comesSo 88 = .ok (.iconst 1, 1) := by decide +kernel
theorem dX6_comesSo_89 : decode cX6_comesSo 89 = .ok (.isub, 1) := by decide +kernel
theorem dX6_comesSo_90 : decode cX6_comesSo 90 = .ok (.iload_n 1, 1) := by decide +kernel
theorem dX6_comesSo_91 : decode cX6_comesSo 91 = .ok (.iload_n 2, 1) := by decide +kernel
theorem dX6_comesSo_92 : decode cX6_comesSo 92 = .ok (.invokevirtual 48, 3) := by decide +kernel
theorem dX6_comesSo_95 : decode cX6_comesSo 95 = .ok (.iload_n 2, 1) := by decide +kernel
theorem dX6_comesSo_96 : decode cX6_comesSo 96 = .ok (.if_icmp .ne 5, 3) := by decide +kernel
theorem dX6_comesSo_99 : decode cX6_comesSo 99 = .ok (.iload_n 2, 1) := by decide +kernel
theorem dX6_comesSo_100 : decode cX6_comesSo 100 = .ok (.ireturn, 1) := by decide +kernel
theorem dX6_comesSo_101 : decode cX6_comesSo 101 = .ok (.iinc 3 1, 3) := by decide +kernel
theorem dX6_comesSo_104 : decode cX6_comesSo 104 = .ok (.goto (-71), 3) := by decide +kernel
theorem dX6_comesSo_107 : decode cX6_comesSo 107 = .ok (.iload_n 2, 1) := by decide +kernel
theorem dX6_comesSo_108 : decode cX6_comesSo 108 = .ok (.ifCond .ne 7, 3) := by decide +kernel
theorem dX6_comesSo_111 : decode cX6_comesSo 111 = .ok (.iconst 1, 1) := by decide +kernel
theorem dX6_comesSo_112 : decode cX6_comesSo 112 = .ok (.goto 4, 3) := by decide +kernel
theorem dX6_comesSo_115 : decode cX6_comesSo 115 = .ok (.iconst 0, 1) := by decide +kernel
theorem dX6_comesSo_116 : decode cX6_comesSo 116 = .ok (.ireturn, 1) := by decide +kernel
theorem dX6_comesSoBy_0 : decode cX6_comesSoBy 0 = .ok (.aload_n 0, 1) := by decide +kernel
theorem dX6_comesSoBy_1 : decode cX6_comesSoBy 1 = .ok (.getfield 12, 3) := by decide +kernel
theorem dX6_comesSoBy_4 : decode cX6_comesSoBy 4 = .ok (.getfield 45, 3) := by decide +kernel
theorem dX6_comesSoBy_7 : decode cX6_comesSoBy 7 = .ok (.iload_n 1, 1) := by decide +kernel
theorem dX6_comesSoBy_8 : decode cX6_comesSoBy 8 = .ok (.iaload, 1) := by decide +kernel
theorem dX6_comesSoBy_9 : decode cX6_comesSoBy 9 = .ok (.istore 5, 2) := by decide +kernel
theorem dX6_comesSoBy_11 : decode cX6_comesSoBy 11 = .ok (.aload_n 0, 1) := by decide +kernel
theorem dX6_comesSoBy_12 : decode cX6_comesSoBy 12 = .ok (.getfield 18, 3) := by decide +kernel
theorem dX6_comesSoBy_15 : decode cX6_comesSoBy 15 = .ok (.iload_n 1, 1) := by decide +kernel
theorem dX6_comesSoBy_16 : decode cX6_comesSoBy 16 = .ok (.iaload, 1) := by decide +kernel
theorem dX6_comesSoBy_17 : decode cX6_comesSoBy 17 = .ok (.istore 6, 2) := by decide +kernel
theorem dX6_comesSoBy_19 : decode cX6_comesSoBy 19 = .ok (.aload_n 0, 1) := by decide +kernel
theorem dX6_comesSoBy_20 : decode cX6_comesSoBy 20 = .ok (.getfield 12, 3) := by decide +kernel
theorem dX6_comesSoBy_23 : decode cX6_comesSoBy 23 = .ok (.getfield 45, 3) := by decide +kernel
theorem dX6_comesSoBy_26 : decode cX6_comesSoBy 26 = .ok (.iload_n 1, 1) := by decide +kernel
theorem dX6_comesSoBy_27 : decode cX6_comesSoBy 27 = .ok (.iload_n 2, 1) := by decide +kernel
theorem dX6_comesSoBy_28 : decode cX6_comesSoBy 28 = .ok (.iastore, 1) := by decide +kernel
theorem dX6_comesSoBy_29 : decode cX6_comesSoBy 29 = .ok (.aload_n 0, 1) := by decide +kernel
theorem dX6_comesSoBy_30 : decode cX6_comesSoBy 30 = .ok (.getfield 18, 3) := by decide +kernel
theorem dX6_comesSoBy_33 : decode cX6_comesSoBy 33 = .ok (.iload_n 1, 1) := by decide +kernel
theorem dX6_comesSoBy_34 : decode cX6_comesSoBy 34 = .ok (.aload_n 0, 1) := by decide +kernel
theorem dX6_comesSoBy_35 : decode cX6_comesSoBy 35 = .ok (.getfield 12, 3) := by decide +kernel
theorem dX6_comesSoBy_38 : decode cX6_comesSoBy 38 = .ok (.aload_n 0, 1) := by decide +kernel
theorem dX6_comesSoBy_39 : decode cX6_comesSoBy 39 = .ok (.getfield 12, 3) := by decide +kernel
theorem dX6_comesSoBy_42 : decode cX6_comesSoBy 42 = .ok (.getfield 30, 3) := by decide +kernel
theorem dX6_comesSoBy_45 : decode cX6_comesSoBy 45 = .ok (.iload_n 1, 1) := by decide +kernel
theorem dX6_comesSoBy_46 : decode cX6_comesSoBy 46 = .ok (.iaload, 1) := by decide +kernel
theorem dX6_comesSoBy_47 : decode cX6_comesSoBy 47 = .ok (.iload_n 1, 1) := by decide +kernel
theorem dX6_comesSoBy_48 : decode cX6_comesSoBy 48 = .ok (.invokevirtual 33, 3) := by decide +kernel
theorem dX6_comesSoBy_51 : decode cX6_comesSoBy 51 = .ok (.iastore, 1) := by decide +kernel
theorem dX6_comesSoBy_52 : decode cX6_comesSoBy 52 = .ok (.aload_n 0, 1) := by decide +kernel
theorem dX6_comesSoBy_53 : decode cX6_comesSoBy 53 = .ok (.iload_n 3, 1) := by decide +kernel
theorem dX6_comesSoBy_54 : decode cX6_comesSoBy 54 = .ok (.iconst 1, 1) := by decide +kernel
theorem dX6_comesSoBy_55 : decode cX6_comesSoBy 55 = .ok (.isub, 1) := by decide +kernel
theorem dX6_comesSoBy_56 : decode cX6_comesSoBy 56 = .ok (.iload 4, 2) := by decide +kernel
theorem dX6_comesSoBy_58 : decode cX6_comesSoBy 58 = .ok (.ifCond .ne 7, 3) := by decide +kernel
theorem dX6_comesSoBy_61 : decode cX6_comesSoBy 61 = .ok (.iconst 1, 1) := by decide +kernel
theorem dX6_comesSoBy_62 : decode cX6_comesSoBy 62 = .ok (.goto 4, 3) := by decide +kernel
theorem dX6_comesSoBy_65 : decode cX6_comesSoBy 65 = .ok (.iconst 0, 1) := by decide +kernel
theorem dX6_comesSoBy_66 : decode cX6_comesSoBy 66 = .ok (.invokevirtual 37, 3) := by decide +kernel
theorem dX6_comesSoBy_69 : decode cX6_comesSoBy 69 = .ok (.istore 7, 2) := by decide +kernel
theorem dX6_comesSoBy_71 : decode cX6_comesSoBy 71 = .ok (.aload_n 0, 1) := by decide +kernel
theorem dX6_comesSoBy_72 : decode cX6_comesSoBy 72 = .ok (.getfield 12, 3) := by decide +kernel
theorem dX6_comesSoBy_75 : decode cX6_comesSoBy 75 = .ok (.getfield 45, 3) := by decide +kernel
theorem dX6_comesSoBy_78 : decode cX6_comesSoBy 78 = .ok (.iload_n 1, 1) := by decide +kernel
theorem dX6_comesSoBy_79 : decode cX6_comesSoBy 79 = .ok (.iload 5, 2) := by decide +kernel
theorem dX6_comesSoBy_81 : decode cX6_comesSoBy 81 = .ok (.iastore, 1) := by decide +kernel
theorem dX6_comesSoBy_82 : decode cX6_comesSoBy 82 = .ok (.aload_n 0, 1) := by decide +kernel
theorem dX6_comesSoBy_83 : decode cX6_comesSoBy 83 = .ok (.getfield 18, 3) := by decide +kernel
theorem dX6_comesSoBy_86 : decode cX6_comesSoBy 86 = .ok (.iload_n 1, 1) := by decide +kernel
theorem dX6_comesSoBy_87 : decode cX6_comesSoBy 87 = .ok (.iload 6, 2) := by decide +kernel
theorem dX6_comesSoBy_89 : decode cX6_comesSoBy 89 = .ok (.iastore, 1) := by decide +kernel
theorem dX6_comesSoBy_90 : decode cX6_comesSoBy 90 = .ok (.iload 7, 2) := by decide +kernel
theorem dX6_comesSoBy_92 : decode cX6_comesSoBy 92 = .ok (.ireturn, 1) := by decide +kernel
theorem dX6_endsSo_0 : decode cX6_endsSo 0 = .ok (.iconst (-1), 1) := by decide +kernel
theorem dX6_endsSo_1 : decode cX6_endsSo 1 = .ok (.istore_n 1, 1) := by decide +kernel
theorem dX6_endsSo_2 : decode cX6_endsSo 2 = .ok (.iconst 0, 1) := by decide +kernel
theorem dX6_endsSo_3 : decode cX6_endsSo 3 = .ok (.istore_n 2, 1) := by decide +kernel
theorem dX6_endsSo_4 : decode cX6_endsSo 4 = .ok (.iload_n 2, 1) := by decide +kernel
theorem dX6_endsSo_5 : decode cX6_endsSo 5 = .ok (.aload_n 0, 1) := by decide +kernel
theorem dX6_endsSo_6 : decode cX6_endsSo 6 = .ok (.getfield 12, 3) := by decide +kernel
theorem dX6_endsSo_9 : decode cX6_endsSo 9 = .ok (.getfield 26, 3) := by decide +kernel
theorem dX6_endsSo_12 : decode cX6_endsSo 12 = .ok (.if_icmp .ge 31, 3) := by decide +kernel
theorem dX6_endsSo_15 : decode cX6_endsSo 15 = .ok (.iload_n 1, 1) := by decide +kernel
theorem dX6_endsSo_16 : decode cX6_endsSo 16 = .ok (.iconst (-1), 1) := by decide +kernel
theorem dX6_endsSo_17 : decode cX6_endsSo 17 = .ok (.if_icmp .eq 18, 3) := by decide +kernel
theorem dX6_endsSo_20 : decode cX6_endsSo 20 = .ok (.aload_n 0, 1) := by decide +kernel
theorem dX6_endsSo_21 : decode cX6_endsSo 21 = .ok (.getfield 18, 3) := by decide +kernel
theorem dX6_endsSo_24 : decode cX6_endsSo 24 = .ok (.iload_n 2, 1) := by decide +kernel
theorem dX6_endsSo_25 : decode cX6_endsSo 25 = .ok (.iaload, 1) := by decide +kernel
theorem dX6_endsSo_26 : decode cX6_endsSo 26 = .ok (.aload_n 0, 1) := by decide +kernel
theorem dX6_endsSo_27 : decode cX6_endsSo 27 = .ok (.getfield 18, 3) := by decide +kernel
theorem dX6_endsSo_30 : decode cX6_endsSo 30 = .ok (.iload_n 1, 1) := by decide +kernel
theorem dX6_endsSo_31 : decode cX6_endsSo 31 = .ok (.iaload, 1) := by decide +kernel
theorem dX6_endsSo_32 : decode cX6_endsSo 32 = .ok (.if_icmp .le 5, 3) := by decide +kernel
theorem dX6_endsSo_35 : decode cX6_endsSo 35 = .ok (.iload_n 2, 1) := by decide +kernel
theorem dX6_endsSo_36 : decode cX6_endsSo 36 = .ok (.istore_n 1, 1) := by decide +kernel
theorem dX6_endsSo_37 : decode cX6_endsSo 37 = .ok (.iinc 2 1, 3) := by decide +kernel
theorem dX6_endsSo_40 : decode cX6_endsSo 40 = .ok (.goto (-36), 3) := by decide +kernel
theorem dX6_endsSo_43 : decode cX6_endsSo 43 = .ok (.iload_n 1, 1) := by decide +kernel
theorem dX6_endsSo_44 : decode cX6_endsSo 44 = .ok (.iconst (-1), 1) := by decide +kernel
theorem dX6_endsSo_45 : decode cX6_endsSo 45 = .ok (.if_icmp .eq 33, 3) := by decide +kernel
theorem dX6_endsSo_48 : decode cX6_endsSo 48 = .ok (.aload_n 0, 1) := by decide +kernel
theorem dX6_endsSo_49 : decode cX6_endsSo 49 = .ok (.getfield 18, 3) := by decide +kernel
theorem dX6_endsSo_52 : decode cX6_endsSo 52 = .ok (.iload_n 1, 1) := by decide +kernel
theorem dX6_endsSo_53 : decode cX6_endsSo 53 = .ok (.iaload, 1) := by decide +kernel
theorem dX6_endsSo_54 : decode cX6_endsSo 54 = .ok (.aload_n 0, 1) := by decide +kernel
theorem dX6_endsSo_55 : decode cX6_endsSo 55 = .ok (.getfield 12, 3) := by decide +kernel
theorem dX6_endsSo_58 : decode cX6_endsSo 58 = .ok (.aload_n 0, 1) := by decide +kernel
theorem dX6_endsSo_59 : decode cX6_endsSo 59 = .ok (.getfield 12, 3) := by decide +kernel
theorem dX6_endsSo_62 : decode cX6_endsSo 62 = .ok (.getfield 52, 3) := by decide +kernel
theorem dX6_endsSo_65 : decode cX6_endsSo 65 = .ok (.iload_n 1, 1) := by decide +kernel
theorem dX6_endsSo_66 : decode cX6_endsSo 66 = .ok (.iaload, 1) := by decide +kernel
theorem dX6_endsSo_67 : decode cX6_endsSo 67 = .ok (.iload_n 1, 1) := by decide +kernel
theorem dX6_endsSo_68 : decode cX6_endsSo 68 = .ok (.invokevirtual 55, 3) := by decide +kernel
theorem dX6_endsSo_71 : decode cX6_endsSo 71 = .ok (.if_icmp .le 7, 3) := by decide +kernel
theorem dX6_endsSo_74 : decode cX6_endsSo 74 = .ok (.iconst 1, 1) := by decide +kernel
theorem dX6_endsSo_75 : decode cX6_endsSo 75 = .ok (.goto 4, 3) := by decide +kernel
theorem dX6_endsSo_78 : decode cX6_endsSo 78 = .ok (.iconst 0, 1) := by decide +kernel
theorem dX6_endsSo_79 : decode cX6_endsSo 79 = .ok (.ireturn, 1) := by decide +kernel
theorem dJ0_length_8abf5_0 : decode cJ0_length_8abf5 0 = .ok (.aload_n 0, 1) := by decide +kernel
theorem dJ0_length_8abf5_1 : decode cJ0_length_8abf5 1 = .ok (.getfield 9, 3) := by decide +kernel
theorem dJ0_length_8abf5_4 : decode cJ0_length_8abf5 4 = .ok (.arraylength, 1) := by decide +kernel
theorem dJ0_length_8abf5_5 : decode cJ0_length_8abf5 5 = .ok (.aload_n 0, 1) := by decide +kernel
theorem dJ0_length_8abf5_6 : decode cJ0_length_8abf5 6 = .ok (.invokevirtual 335, 3) := by decide +kernel
theorem dJ0_length_8abf5_9 : decode cJ0_length_8abf5 9 = .ok (.ishr, 1) := by decide +kernel
theorem dJ0_length_8abf5_10 : decode cJ0_length_8abf5 10 = .ok (.ireturn, 1) := by decide +kernel
theorem dJ0_charAt_5068e_0 : decode cJ0_charAt_5068e 0 = .ok (.aload_n 0, 1) := by decide +kernel
theorem dJ0_charAt_5068e_1 : decode cJ0_charAt_5068e 1 = .ok (.invokevirtual 492, 3) := by decide +kernel
theorem dJ0_charAt_5068e_4 : decode cJ0_charAt_5068e 4 = .ok (.ifCond .eq 12, 3) := by decide +kernel
theorem dJ0_charAt_5068e_7 : decode cJ0_charAt_5068e 7 = .ok (.aload_n 0, 1) := by decide +kernel
theorem dJ0_charAt_5068e_8 : decode cJ0_charAt_5068e 8 = .ok (.getfield 9, 3) := by decide +kernel
theorem dJ0_charAt_5068e_11 : decode cJ0_charAt_5068e 11 = .ok (.iload_n 1, 1) := by decide +kernel
theorem dJ0_charAt_5068e_12 : decode cJ0_charAt_5068e 12 = .ok (.invokestatic 495, 3) := by decide +kernel
theorem dJ0_charAt_5068e_15 : decode cJ0_charAt_5068e 15 = .ok (.ireturn, 1) := by decide +kernel
theorem dJ0_charAt_5068e_16 : decode cJ0_charAt_5068e 16 = .ok (.aload_n 0, 1) := by decide +kernel
theorem dJ0_charAt_5068e_17 : decode cJ0_charAt_5068e 17 = .ok (.getfield 9, 3) := by decide +kernel
theorem dJ0_charAt_5068e_20 : decode cJ0_charAt_5068e 20 = .ok (.iload_n 1, 1) := by decide +kernel
theorem dJ0_charAt_5068e_21 : decode cJ0_charAt_5068e 21 = .ok (.invokestatic 498, 3) := by decide +kernel
theorem dJ0_charAt_5068e_24 : decode cJ0_charAt_5068e 24 = .ok (.ireturn, 1) := by decide +kernel
theorem dJ0_coder_7d493_0 : decode cJ0_coder_7d493 0 = .ok (.getstatic 38, 3) := by decide +kernel
theorem dJ0_coder_7d493_3 : decode cJ0_coder_7d493 3 = .ok (.ifCond .eq 10, 3) := by decide +kernel
theorem dJ0_coder_7d493_6 : decode cJ0_coder_7d493 6 = .ok (.aload_n 0, 1) := by decide +kernel
theorem dJ0_coder_7d493_7 : decode cJ0_coder_7d493 7 = .ok (.getfield 15, 3) := by decide +kernel
theorem dJ0_coder_7d493_10 : decode cJ0_coder_7d493 10 = .ok (.goto 4, 3) := by decide +kernel
theorem dJ0_coder_7d493_13 : decode cJ0_coder_7d493 13 = .ok (.iconst 1, 1) := by decide +kernel
theorem dJ0_coder_7d493_14 : decode cJ0_coder_7d493 14 = .ok (.ireturn, 1) := by decide +kernel
theorem dJ0_isLatin1_aae02_0 : decode cJ0_isLatin1_aae02 0 = .ok (.getstatic 38, 3) := by decide +kernel
theorem dJ0_isLatin1_aae02_3 : decode cJ0_isLatin1_aae02 3 = .ok (.ifCond .eq 14, 3) := by decide +kernel
theorem dJ0_isLatin1_aae02_6 : decode cJ0_isLatin1_aae02 6 = .ok (.aload_n 0, 1) := by decide +kernel
theorem dJ0_isLatin1_aae02_7 : decode cJ0_isLatin1_aae02 7 = .ok (.getfield 15, 3) := by decide +kernel
theorem dJ0_isLatin1_aae02_10 : decode cJ0_isLatin1_aae02 10 = .ok (.ifCond .ne 7, 3) := by decide +kernel
theorem dJ0_isLatin1_aae02_13 : decode cJ0_isLatin1_aae02 13 = .ok (.iconst 1, 1) := by decide +kernel
theorem dJ0_isLatin1_aae02_14 : decode cJ0_isLatin1_aae02 14 = .ok (.goto 4, 3) := by decide +kernel
theorem dJ0_isLatin1_aae02_17 : decode cJ0_isLatin1_aae02 17 = .ok (.iconst 0, 1) := by decide +kernel
theorem dJ0_isLatin1_aae02_18 : decode cJ0_isLatin1_aae02 18 = .ok (.ireturn, 1) := by decide +kernel
theorem dJ0_checkIndex_df160_0 : decode cJ0_checkIndex_df160 0 = .ok (.iload_n 0, 1) := by decide +kernel
theorem dJ0_checkIndex_df160_1 : decode cJ0_checkIndex_df160 1 = .ok (.iload_n 1, 1) := by decide +kernel
theorem dJ0_checkIndex_df160_2 : decode cJ0_checkIndex_df160 2 = .ok (.getstatic 1053, 3) := by decide +kernel
theorem dJ0_checkIndex_df160_5 : decode cJ0_checkIndex_df160 5 = .ok (.invokestatic 1059, 3) := by decide +kernel
theorem dJ0_checkIndex_df160_8 : decode cJ0_checkIndex_df160 8 = .ok (.pop, 1) := by decide +kernel
theorem dJ0_checkIndex_df160_9 : decode cJ0_checkIndex_df160 9 = .ok (.return_, 1) := by decide +kernel
theorem dJ1_charAt_3b067_0 : decode cJ1_charAt_3b067 0 = .ok (.iload_n 1, 1) := by decide +kernel
theorem dJ1_charAt_3b067_1 : decode cJ1_charAt_3b067 1 = .ok (.aload_n 0, 1) := by decide +kernel
theorem dJ1_charAt_3b067_2 : decode cJ1_charAt_3b067 2 = .ok (.arraylength, 1) := by decide +kernel
theorem dJ1_charAt_3b067_3 : decode cJ1_charAt_3b067 3 = .ok (.invokestatic 9, 3) := by decide +kernel
theorem dJ1_charAt_3b067_6 : decode cJ1_charAt_3b067 6 = .ok (.aload_n 0, 1) := by decide +kernel
theorem dJ1_charAt_3b067_7 : decode cJ1_charAt_3b067 7 = .ok (.iload_n 1, 1) := by decide +kernel
theorem dJ1_charAt_3b067_8 : decode cJ1_charAt_3b067 8 = .ok (.baload, 1) := by decide +kernel
theorem dJ1_charAt_3b067_9 : decode cJ1_charAt_3b067 9 = .ok (.sipush 255, 3) := by decide +kernel
theorem dJ1_charAt_3b067_12 : decode cJ1_charAt_3b067 12 = .ok (.iand, 1) := by decide +kernel
theorem dJ1_charAt_3b067_13 : decode cJ1_charAt_3b067 13 = .ok (.i2c, 1) := by decide +kernel
theorem dJ1_charAt_3b067_14 : decode cJ1_charAt_3b067 14 = .ok (.ireturn, 1) := by decide +kernel
theorem dJ2_getChar_3b067_0 : decode cJ2_getChar_3b067 0 = .ok (.getstatic 44, 3) := by decide +kernel
theorem dJ2_getChar_3b067_3 : decode cJ2_getChar_3b067 3 = .ok (.ifCond .ne 25, 3) := by decide +kernel
theorem dJ2_getChar_3b067_6 : decode cJ2_getChar_3b067 6 = .ok (.iload_n 1, 1) := by decide +kernel
theorem dJ2_getChar_3b067_7 : decode cJ2_getChar_3b067 7 = .ok (.ifCond .lt 11, 3) := by decide +kernel
theorem dJ2_getChar_3b067_10 : decode cJ2_getChar_3b067 10 = .ok (.iload_n 1, 1) := by decide +kernel
theorem dJ2_getChar_3b067_11 : decode cJ2_getChar_3b067 11 = .ok (.aload_n 0, 1) := by decide +kernel
theorem dJ2_getChar_3b067_12 : decode cJ2_getChar_3b067 12 = .ok (.invokestatic 48, 3) := by decide +kernel
theorem dJ2_getChar_3b067_15 : decode cJ2_getChar_3b067 15 = .ok (.if_icmp .lt 13, 3) := by decide +kernel
theorem dJ2_getChar_3b067_18 : decode cJ2_getChar_3b067 18 = .ok (.new 52, 3) := by decide +kernel
theorem dJ2_getChar_3b067_21 : decode cJ2_getChar_3b067 21 = .ok (.dup, 1) := by decide +kernel
theorem dJ2_getChar_3b067_22 : decode cJ2_getChar_3b067 22 = .ok (.ldc 54, 2) := by decide +kernel
theorem dJ2_getChar_3b067_24 : decode cJ2_getChar_3b067 24 = .ok (.invokespecial 56, 3) := by decide +kernel
theorem dJ2_getChar_3b067_27 : decode cJ2_getChar_3b067 27 = .ok (.athrow, 1) := by decide +kernel
theorem dJ2_getChar_3b067_28 : decode cJ2_getChar_3b067 28 = .ok (.iload_n 1, 1) := by decide +kernel
theorem dJ2_getChar_3b067_29 : decode cJ2_getChar_3b067 29 = .ok (.iconst 1, 1) := by decide +kernel
theorem dJ2_getChar_3b067_30 : decode cJ2_getChar_3b067 30 = .ok (.ishl, 1) := by decide +kernel
theorem dJ2_getChar_3b067_31 : decode cJ2_getChar_3b067 31 = .ok (.istore_n 1, 1) := by decide +kernel
theorem dJ2_getChar_3b067_32 : decode cJ2_getChar_3b067 32 = .ok (.aload_n 0, 1) := by decide +kernel
theorem dJ2_getChar_3b067_33 : decode cJ2_getChar_3b067 33 = .ok (.iload_n 1, 1) := by decide +kernel
theorem dJ2_getChar_3b067_34 : decode cJ2_getChar_3b067 34 = .ok (.iinc 1 1, 3) := by decide +kernel
theorem dJ2_getChar_3b067_37 : decode cJ2_getChar_3b067 37 = .ok (.baload, 1) := by decide +kernel
theorem dJ2_getChar_3b067_38 : decode cJ2_getChar_3b067 38 = .ok (.sipush 255, 3) := by decide +kernel
theorem dJ2_getChar_3b067_41 : decode cJ2_getChar_3b067 41 = .ok (.iand, 1) := by decide +kernel
theorem dJ2_getChar_3b067_42 : decode cJ2_getChar_3b067 42 = .ok (.getstatic 59, 3) := by decide +kernel
theorem dJ2_getChar_3b067_45 : decode cJ2_getChar_3b067 45 = .ok (.ishl, 1) := by decide +kernel
theorem dJ2_getChar_3b067_46 : decode cJ2_getChar_3b067 46 = .ok (.aload_n 0, 1) := by decide +kernel
theorem dJ2_getChar_3b067_47 : decode cJ2_getChar_3b067 47 = .ok (.iload_n 1, 1) := by decide +kernel
theorem dJ2_getChar_3b067_48 : decode cJ2_getChar_3b067 48 = .ok (.baload, 1) := by decide +kernel
theorem dJ2_getChar_3b067_49 : decode cJ2_getChar_3b067 49 = .ok (.sipush 255, 3) := by decide +kernel
theorem dJ2_getChar_3b067_52 : decode cJ2_getChar_3b067 52 = .ok (.iand, 1) := by decide +kernel
theorem dJ2_getChar_3b067_53 : decode cJ2_getChar_3b067 53 = .ok (.getstatic 63, 3) := by decide +kernel
theorem dJ2_getChar_3b067_56 : decode cJ2_getChar_3b067 56 = .ok (.ishl, 1) := by decide +kernel
theorem dJ2_getChar_3b067_57 : decode cJ2_getChar_3b067 57 = .ok (.ior, 1) := by decide +kernel
theorem dJ2_getChar_3b067_58 : decode cJ2_getChar_3b067 58 = .ok (.i2c, 1) := by decide +kernel
theorem dJ2_getChar_3b067_59 : decode cJ2_getChar_3b067 59 = .ok (.ireturn, 1) := by decide +kernel
theorem dJ2_length_9d52b_0 : decode cJ2_length_9d52b 0 = .ok (.aload_n 0, 1) := by decide +kernel
theorem dJ2_length_9d52b_1 : decode cJ2_length_9d52b 1 = .ok (.arraylength, 1) := by decide +kernel
theorem dJ2_length_9d52b_2 : decode cJ2_length_9d52b 2 = .ok (.iconst 1, 1) := by decide +kernel
theorem dJ2_length_9d52b_3 : decode cJ2_length_9d52b 3 = .ok (.ishr, 1) := by decide +kernel
theorem dJ2_length_9d52b_4 : decode cJ2_length_9d52b 4 = .ok (.ireturn, 1) := by decide +kernel
theorem dJ2_charAt_3b067_0 : decode cJ2_charAt_3b067 0 = .ok (.iload_n 1, 1) := by decide +kernel
theorem dJ2_charAt_3b067_1 : decode cJ2_charAt_3b067 1 = .ok (.aload_n 0, 1) := by decide +kernel
theorem dJ2_charAt_3b067_2 : decode cJ2_charAt_3b067 2 = .ok (.invokestatic 67, 3) := by decide +kernel
theorem dJ2_charAt_3b067_5 : decode cJ2_charAt_3b067 5 = .ok (.aload_n 0, 1) := by decide +kernel
theorem dJ2_charAt_3b067_6 : decode cJ2_charAt_3b067 6 = .ok (.iload_n 1, 1) := by decide +kernel
theorem dJ2_charAt_3b067_7 : decode cJ2_charAt_3b067 7 = .ok (.invokestatic 71, 3) := by decide +kernel
theorem dJ2_charAt_3b067_10 : decode cJ2_charAt_3b067 10 = .ok (.ireturn, 1) := by decide +kernel
theorem dJ2_checkIndex_2214a_0 : decode cJ2_checkIndex_2214a 0 = .ok (.iload_n 0, 1) := by decide +kernel
theorem dJ2_checkIndex_2214a_1 : decode cJ2_checkIndex_2214a 1 = .ok (.aload_n 1, 1) := by decide +kernel
theorem dJ2_checkIndex_2214a_2 : decode cJ2_checkIndex_2214a 2 = .ok (.invokestatic 48, 3) := by decide +kernel
theorem dJ2_checkIndex_2214a_5 : decode cJ2_checkIndex_2214a 5 = .ok (.invokestatic 414, 3) := by decide +kernel
theorem dJ2_checkIndex_2214a_8 : decode cJ2_checkIndex_2214a 8 = .ok (.return_, 1) := by decide +kernel
theorem dJ6_bitCount_0f7a4_0 : decode cJ6_bitCount_0f7a4 0 = .ok (.iload_n 0, 1) := by decide +kernel
theorem dJ6_bitCount_0f7a4_1 : decode cJ6_bitCount_0f7a4 1 = .ok (.iload_n 0, 1) := by decide +kernel
theorem dJ6_bitCount_0f7a4_2 : decode cJ6_bitCount_0f7a4 2 = .ok (.iconst 1, 1) := by decide +kernel
theorem dJ6_bitCount_0f7a4_3 : decode cJ6_bitCount_0f7a4 3 = .ok (.iushr, 1) := by decide +kernel
theorem dJ6_bitCount_0f7a4_4 : decode cJ6_bitCount_0f7a4 4 = .ok (.ldc_w 265, 3) := by decide +kernel
theorem dJ6_bitCount_0f7a4_7 : decode cJ6_bitCount_0f7a4 7 = .ok (.iand, 1) := by decide +kernel
theorem dJ6_bitCount_0f7a4_8 : decode cJ6_bitCount_0f7a4 8 = .ok (.isub, 1) := by decide +kernel
theorem dJ6_bitCount_0f7a4_9 : decode cJ6_bitCount_0f7a4 9 = .ok (.istore_n 0, 1) := by decide +kernel
theorem dJ6_bitCount_0f7a4_10 : decode cJ6_bitCount_0f7a4 10 = .ok (.iload_n 0, 1) := by decide +kernel
theorem dJ6_bitCount_0f7a4_11 : decode cJ6_bitCount_0f7a4 11 = .ok (.ldc_w 266, 3) := by decide +kernel
theorem dJ6_bitCount_0f7a4_14 : decode cJ6_bitCount_0f7a4 14 = .ok (.iand, 1) := by decide +kernel
theorem dJ6_bitCount_0f7a4_15 : decode cJ6_bitCount_0f7a4 15 = .ok (.iload_n 0, 1) := by decide +kernel
theorem dJ6_bitCount_0f7a4_16 : decode cJ6_bitCount_0f7a4 16 = .ok (.iconst 2, 1) := by decide +kernel
theorem dJ6_bitCount_0f7a4_17 : decode cJ6_bitCount_0f7a4 17 = .ok (.iushr, 1) := by decide +kernel
theorem dJ6_bitCount_0f7a4_18 : decode cJ6_bitCount_0f7a4 18 = .ok (.ldc_w 266, 3) := by decide +kernel
theorem dJ6_bitCount_0f7a4_21 : decode cJ6_bitCount_0f7a4 21 = .ok (.iand, 1) := by decide +kernel
theorem dJ6_bitCount_0f7a4_22 : decode cJ6_bitCount_0f7a4 22 = .ok (.iadd, 1) := by decide +kernel
theorem dJ6_bitCount_0f7a4_23 : decode cJ6_bitCount_0f7a4 23 = .ok (.istore_n 0, 1) := by decide +kernel
theorem dJ6_bitCount_0f7a4_24 : decode cJ6_bitCount_0f7a4 24 = .ok (.iload_n 0, 1) := by decide +kernel
theorem dJ6_bitCount_0f7a4_25 : decode cJ6_bitCount_0f7a4 25 = .ok (.iload_n 0, 1) := by decide +kernel
theorem dJ6_bitCount_0f7a4_26 : decode cJ6_bitCount_0f7a4 26 = .ok (.iconst 4, 1) := by decide +kernel
theorem dJ6_bitCount_0f7a4_27 : decode cJ6_bitCount_0f7a4 27 = .ok (.iushr, 1) := by decide +kernel
theorem dJ6_bitCount_0f7a4_28 : decode cJ6_bitCount_0f7a4 28 = .ok (.iadd, 1) := by decide +kernel
theorem dJ6_bitCount_0f7a4_29 : decode cJ6_bitCount_0f7a4 29 = .ok (.ldc_w 267, 3) := by decide +kernel
theorem dJ6_bitCount_0f7a4_32 : decode cJ6_bitCount_0f7a4 32 = .ok (.iand, 1) := by decide +kernel
theorem dJ6_bitCount_0f7a4_33 : decode cJ6_bitCount_0f7a4 33 = .ok (.istore_n 0, 1) := by decide +kernel
theorem dJ6_bitCount_0f7a4_34 : decode cJ6_bitCount_0f7a4 34 = .ok (.iload_n 0, 1) := by decide +kernel
theorem dJ6_bitCount_0f7a4_35 : decode cJ6_bitCount_0f7a4 35 = .ok (.iload_n 0, 1) := by decide +kernel
theorem dJ6_bitCount_0f7a4_36 : decode cJ6_bitCount_0f7a4 36 = .ok (.bipush 8, 2) := by decide +kernel
theorem dJ6_bitCount_0f7a4_38 : decode cJ6_bitCount_0f7a4 38 = .ok (.iushr, 1) := by decide +kernel
theorem dJ6_bitCount_0f7a4_39 : decode cJ6_bitCount_0f7a4 39 = .ok (.iadd, 1) := by decide +kernel
theorem dJ6_bitCount_0f7a4_40 : decode cJ6_bitCount_0f7a4 40 = .ok (.istore_n 0, 1) := by decide +kernel
theorem dJ6_bitCount_0f7a4_41 : decode cJ6_bitCount_0f7a4 41 = .ok (.iload_n 0, 1) := by decide +kernel
theorem dJ6_bitCount_0f7a4_42 : decode cJ6_bitCount_0f7a4 42 = .ok (.iload_n 0, 1) := by decide +kernel
theorem dJ6_bitCount_0f7a4_43 : decode cJ6_bitCount_0f7a4 43 = .ok (.bipush 16, 2) := by decide +kernel
theorem dJ6_bitCount_0f7a4_45 : decode cJ6_bitCount_0f7a4 45 = .ok (.iushr, 1) := by decide +kernel
theorem dJ6_bitCount_0f7a4_46 : decode cJ6_bitCount_0f7a4 46 = .ok (.iadd, 1) := by decide +kernel
theorem dJ6_bitCount_0f7a4_47 : decode cJ6_bitCount_0f7a4 47 = .ok (.istore_n 0, 1) := by decide +kernel
theorem dJ6_bitCount_0f7a4_48 : decode cJ6_bitCount_0f7a4 48 = .ok (.iload_n 0, 1) := by decide +kernel
theorem dJ6_bitCount_0f7a4_49 : decode cJ6_bitCount_0f7a4 49 = .ok (.bipush 63, 2) := by decide +kernel
theorem dJ6_bitCount_0f7a4_51 : decode cJ6_bitCount_0f7a4 51 = .ok (.iand, 1) := by decide +kernel
theorem dJ6_bitCount_0f7a4_52 : decode cJ6_bitCount_0f7a4 52 = .ok (.ireturn, 1) := by decide +kernel
theorem dJ7_fill_d0a16_0 : decode cJ7_fill_d0a16 0 = .ok (.iconst 0, 1) := by decide +kernel
theorem dJ7_fill_d0a16_1 : decode cJ7_fill_d0a16 1 = .ok (.istore_n 3, 1) := by decide +kernel
theorem dJ7_fill_d0a16_2 : decode cJ7_fill_d0a16 2 = .ok (.aload_n 0, 1) := by decide +kernel
theorem dJ7_fill_d0a16_3 : decode cJ7_fill_d0a16 3 = .ok (.arraylength, 1) := by decide +kernel
theorem dJ7_fill_d0a16_4 : decode cJ7_fill_d0a16 4 = .ok (.istore 4, 2) := by decide +kernel
theorem dJ7_fill_d0a16_6 : decode cJ7_fill_d0a16 6 = .ok (.iload_n 3, 1) := by decide +kernel
theorem dJ7_fill_d0a16_7 : decode cJ7_fill_d0a16 7 = .ok (.iload 4, 2) := by decide +kernel
theorem dJ7_fill_d0a16_9 : decode cJ7_fill_d0a16 9 = .ok (.if_icmp .ge 13, 3) := by decide +kernel
theorem dJ7_fill_d0a16_12 : decode cJ7_fill_d0a16 12 = .ok (.aload_n 0, 1) := by decide +kernel
theorem dJ7_fill_d0a16_13 : decode cJ7_fill_d0a16 13 = .ok (.iload_n 3, 1) := by decide +kernel
theorem dJ7_fill_d0a16_14 : decode cJ7_fill_d0a16 14 = .ok (.lload_n 1, 1) := by decide +kernel
theorem dJ7_fill_d0a16_15 : decode cJ7_fill_d0a16 15 = .ok (.lastore, 1) := by decide +kernel
theorem dJ7_fill_d0a16_16 : decode cJ7_fill_d0a16 16 = .ok (.iinc 3 1, 3) := by decide +kernel
theorem dJ7_fill_d0a16_19 : decode cJ7_fill_d0a16 19 = .ok (.goto (-13), 3) := by decide +kernel
theorem dJ7_fill_d0a16_22 : decode cJ7_fill_d0a16 22 = .ok (.return_, 1) := by decide +kernel
theorem dJ7_fill_53178_0 : decode cJ7_fill_53178 0 = .ok (.iconst 0, 1) := by decide +kernel
theorem dJ7_fill_53178_1 : decode cJ7_fill_53178 1 = .ok (.istore_n 2, 1) := by decide +kernel
theorem dJ7_fill_53178_2 : decode cJ7_fill_53178 2 = .ok (.aload_n 0, 1) := by decide +kernel
theorem dJ7_fill_53178_3 : decode cJ7_fill_53178 3 = .ok (.arraylength, 1) := by decide +kernel
theorem dJ7_fill_53178_4 : decode cJ7_fill_53178 4 = .ok (.istore_n 3, 1) := by decide +kernel
theorem dJ7_fill_53178_5 : decode cJ7_fill_53178 5 = .ok (.iload_n 2, 1) := by decide +kernel
theorem dJ7_fill_53178_6 : decode cJ7_fill_53178 6 = .ok (.iload_n 3, 1) := by decide +kernel
theorem dJ7_fill_53178_7 : decode cJ7_fill_53178 7 = .ok (.if_icmp .ge 13, 3) := by decide +kernel
theorem dJ7_fill_53178_10 : decode cJ7_fill_53178 10 = .ok (.aload_n 0, 1) := by decide +kernel
theorem dJ7_fill_53178_11 : decode cJ7_fill_53178 11 = .ok (.iload_n 2, 1) := by decide +kernel
theorem dJ7_fill_53178_12 : decode cJ7_fill_53178 12 = .ok (.iload_n 1, 1) := by decide +kernel
theorem dJ7_fill_53178_13 : decode cJ7_fill_53178 13 = .ok (.iastore, 1) := by decide +kernel
theorem dJ7_fill_53178_14 : decode cJ7_fill_53178 14 = .ok (.iinc 2 1, 3) := by decide +kernel
theorem dJ7_fill_53178_17 : decode cJ7_fill_53178 17 = .ok (.goto (-12), 3) := by decide +kernel
theorem dJ7_fill_53178_20 : decode cJ7_fill_53178 20 = .ok (.return_, 1) := by decide +kernel
theorem dJ9_max_7cf53_0 : decode cJ9_max_7cf53 0 = .ok (.iload_n 0, 1) := by decide +kernel
theorem dJ9_max_7cf53_1 : decode cJ9_max_7cf53 1 = .ok (.iload_n 1, 1) := by decide +kernel
theorem dJ9_max_7cf53_2 : decode cJ9_max_7cf53 2 = .ok (.if_icmp .lt 7, 3) := by decide +kernel
theorem dJ9_max_7cf53_5 : decode cJ9_max_7cf53 5 = .ok (.iload_n 0, 1) := by decide +kernel
theorem dJ9_max_7cf53_6 : decode cJ9_max_7cf53 6 = .ok (.goto 4, 3) := by decide +kernel
theorem dJ9_max_7cf53_9 : decode cJ9_max_7cf53 9 = .ok (.iload_n 1, 1) := by decide +kernel
theorem dJ9_max_7cf53_10 : decode cJ9_max_7cf53 10 = .ok (.ireturn, 1) := by decide +kernel
theorem dJ9_min_7cf53_0 : decode cJ9_min_7cf53 0 = .ok (.iload_n 0, 1) := by decide +kernel
theorem dJ9_min_7cf53_1 : decode cJ9_min_7cf53 1 = .ok (.iload_n 1, 1) := by decide +kernel
theorem dJ9_min_7cf53_2 : decode cJ9_min_7cf53 2 = .ok (.if_icmp .gt 7, 3) := by decide +kernel
theorem dJ9_min_7cf53_5 : decode cJ9_min_7cf53 5 = .ok (.iload_n 0, 1) := by decide +kernel
theorem dJ9_min_7cf53_6 : decode cJ9_min_7cf53 6 = .ok (.goto 4, 3) := by decide +kernel
theorem dJ9_min_7cf53_9 : decode cJ9_min_7cf53 9 = .ok (.iload_n 1, 1) := by decide +kernel
theorem dJ9_min_7cf53_10 : decode cJ9_min_7cf53 10 = .ok (.ireturn, 1) := by decide +kernel
theorem dX7_init_0 : decode cX7_init 0 = .ok (.aload_n 0, 1) := by decide +kernel
theorem dX7_init_1 : decode cX7_init 1 = .ok (.invokespecial 1, 3) := by decide +kernel
theorem dX7_init_4 : decode cX7_init 4 = .ok (.aload_n 0, 1) := by decide +kernel
theorem dX7_init_5 : decode cX7_init 5 = .ok (.new 7, 3) := by decide +kernel
theorem dX7_init_8 : decode cX7_init 8 = .ok (.dup, 1) := by decide +kernel
theorem dX7_init_9 : decode cX7_init 9 = .ok (.invokespecial 9, 3) := by decide +kernel
theorem dX7_init_12 : decode cX7_init 12 = .ok (.putfield 10, 3) := by decide +kernel
theorem dX7_init_15 : decode cX7_init 15 = .ok (.aload_n 0, 1) := by decide +kernel
theorem dX7_init_16 : decode cX7_init 16 = .ok (.new 7, 3) := by decide +kernel
theorem dX7_init_19 : decode cX7_init 19 = .ok (.dup, 1) := by decide +kernel
theorem dX7_init_20 : decode cX7_init 20 = .ok (.invokespecial 9, 3) := by decide +kernel
theorem dX7_init_23 : decode cX7_init 23 = .ok (.putfield 16, 3) := by decide +kernel
theorem dX7_init_26 : decode cX7_init 26 = .ok (.aload_n 0, 1) := by decide +kernel
theorem dX7_init_27 : decode cX7_init 27 = .ok (.new 19, 3) := by decide +kernel
theorem dX7_init_30 : decode cX7_init 30 = .ok (.dup, 1) := by decide +kernel
theorem dX7_init_31 : decode cX7_init 31 = .ok (.invokespecial 21, 3) := by decide +kernel
theorem dX7_init_34 : decode cX7_init 34 = .ok (.putfield 22, 3) := by decide +kernel
theorem dX7_init_37 : decode cX7_init 37 = .ok (.aload_n 0, 1) := by decide +kernel
theorem dX7_init_38 : decode cX7_init 38 = .ok (.new 26, 3) := by decide +kernel
theorem dX7_init_41 : decode cX7_init 41 = .ok (.dup, 1) := by decide +kernel
theorem dX7_init_42 : decode cX7_init 42 = .ok (.invokespecial 28, 3) := by decide +kernel
theorem dX7_init_45 : decode cX7_init 45 = .ok (.putfield 29, 3) := by decide +kernel
theorem dX7_init_48 : decode cX7_init 48 = .ok (.aload_n 0, 1) := by decide +kernel
theorem dX7_init_49 : decode cX7_init 49 = .ok (.new 33, 3) := by decide +kernel
theorem dX7_init_52 : decode cX7_init 52 = .ok (.dup, 1) := by decide +kernel
theorem dX7_init_53 : decode cX7_init 53 = .ok (.invokespecial 35, 3) := by decide +kernel
theorem dX7_init_56 : decode cX7_init 56 = .ok (.putfield 36, 3) := by decide +kernel
theorem dX7_init_59 : decode cX7_init 59 = .ok (.aload_n 0, 1) := by decide +kernel
theorem dX7_init_60 : decode cX7_init 60 = .ok (.new 40, 3) := by decide +kernel
theorem dX7_init_63 : decode cX7_init 63 = .ok (.dup, 1) := by decide +kernel
theorem dX7_init_64 : decode cX7_init 64 = .ok (.invokespecial 42, 3) := by decide +kernel
theorem dX7_init_67 : decode cX7_init 67 = .ok (.putfield 43, 3) := by decide +kernel
theorem dX7_init_70 : decode cX7_init 70 = .ok (.aload_n 0, 1) := by decide +kernel
theorem dX7_init_71 : decode cX7_init 71 = .ok (.new 47, 3) := by decide +kernel
theorem dX7_init_74 : decode cX7_init 74 = .ok (.dup, 1) := by decide +kernel
theorem dX7_init_75 : decode cX7_init 75 = .ok (.invokespecial 49, 3) := by decide +kernel
theorem dX7_init_78 : decode cX7_init 78 = .ok (.putfield 50, 3) := by decide +kernel
theorem dX7_init_81 : decode cX7_init 81 = .ok (.aload_n 0, 1) := by decide +kernel
theorem dX7_init_82 : decode cX7_init 82 = .ok (.bipush 8, 2) := by decide +kernel
theorem dX7_init_84 : decode cX7_init 84 = .ok (.anewarray 54, 3) := by decide +kernel
theorem dX7_init_87 : decode cX7_init 87 = .ok (.putfield 56, 3) := by decide +kernel
theorem dX7_init_90 : decode cX7_init 90 = .ok (.aload_n 0, 1) := by decide +kernel
theorem dX7_init_91 : decode cX7_init 91 = .ok (.iconst 5, 1) := by decide +kernel
theorem dX7_init_92 : decode cX7_init 92 = .ok (.newarray .int, 2) := by decide +kernel
theorem dX7_init_94 : decode cX7_init 94 = .ok (.putfield 60, 3) := by decide +kernel
theorem dX7_init_97 : decode cX7_init 97 = .ok (.aload_n 0, 1) := by decide +kernel
theorem dX7_init_98 : decode cX7_init 98 = .ok (.iconst 0, 1) := by decide +kernel
theorem dX7_init_99 : decode cX7_init 99 = .ok (.putfield 64, 3) := by decide +kernel
theorem dX7_init_102 : decode cX7_init 102 = .ok (.iconst 0, 1) := by decide +kernel
theorem dX7_init_103 : decode cX7_init 103 = .ok (.istore_n 1, 1) := by decide +kernel
theorem dX7_init_104 : decode cX7_init 104 = .ok (.iload_n 1, 1) := by decide +kernel
theorem dX7_init_105 : decode cX7_init 105 = .ok (.bipush 8, 2) := by decide +kernel
theorem dX7_init_107 : decode cX7_init 107 = .ok (.if_icmp .ge 22, 3) := by decide +kernel
theorem dX7_init_110 : decode cX7_init 110 = .ok (.aload_n 0, 1) := by decide +kernel
theorem dX7_init_111 : decode cX7_init 111 = .ok (.getfield 56, 3) := by decide +kernel
theorem dX7_init_114 : decode cX7_init 114 = .ok (.iload_n 1, 1) := by decide +kernel
theorem dX7_init_115 : decode cX7_init 115 = .ok (.new 54, 3) := by decide +kernel
theorem dX7_init_118 : decode cX7_init 118 = .ok (.dup, 1) := by decide +kernel
theorem dX7_init_119 : decode cX7_init 119 = .ok (.invokespecial 68, 3) := by decide +kernel
theorem dX7_init_122 : decode cX7_init 122 = .ok (.aastore, 1) := by decide +kernel
theorem dX7_init_123 : decode cX7_init 123 = .ok (.iinc 1 1, 3) := by decide +kernel
theorem dX7_init_126 : decode cX7_init 126 = .ok (.goto (-22), 3) := by decide +kernel
theorem dX7_init_129 : decode cX7_init 129 = .ok (.return_, 1) := by decide +kernel
theorem dX7_row_0 : decode cX7_row 0 = .ok (.iload_n 1, 1) := by decide +kernel
theorem dX7_row_1 : decode cX7_row 1 = .ok (.invokestatic 69, 3) := by decide +kernel
theorem dX7_row_4 : decode cX7_row 4 = .ok (.ifCond .eq 20, 3) := by decide +kernel
theorem dX7_row_7 : decode cX7_row 7 = .ok (.iload_n 2, 1) := by decide +kernel
theorem dX7_row_8 : decode cX7_row 8 = .ok (.iconst 4, 1) := by decide +kernel
theorem dX7_row_9 : decode cX7_row 9 = .ok (.invokestatic 73, 3) := by decide +kernel
theorem dX7_row_12 : decode cX7_row 12 = .ok (.ifCond .eq 12, 3) := by decide +kernel
theorem dX7_row_15 : decode cX7_row 15 = .ok (.iload_n 3, 1) := by decide +kernel
theorem dX7_row_16 : decode cX7_row 16 = .ok (.bipush 40, 2) := by decide +kernel
theorem dX7_row_18 : decode cX7_row 18 = .ok (.invokestatic 73, 3) := by decide +kernel
theorem dX7_row_21 : decode cX7_row 21 = .ok (.ifCond .ne 10, 3) := by decide +kernel
theorem dX7_row_24 : decode cX7_row 24 = .ok (.aload_n 0, 1) := by decide +kernel
theorem dX7_row_25 : decode cX7_row 25 = .ok (.bipush (-2), 2) := by decide +kernel
theorem dX7_row_27 : decode cX7_row 27 = .ok (.invokevirtual 77, 3) := by decide +kernel
theorem dX7_row_30 : decode cX7_row 30 = .ok (.ireturn, 1) := by decide +kernel
theorem dX7_row_31 : decode cX7_row 31 = .ok (.aload_n 0, 1) := by decide +kernel
theorem dX7_row_32 : decode cX7_row 32 = .ok (.getfield 56, 3) := by decide +kernel
theorem dX7_row_35 : decode cX7_row 35 = .ok (.iload_n 1, 1) := by decide +kernel
theorem dX7_row_36 : decode cX7_row 36 = .ok (.aaload, 1) := by decide +kernel
theorem dX7_row_37 : decode cX7_row 37 = .ok (.iload_n 2, 1) := by decide +kernel
theorem dX7_row_38 : decode cX7_row 38 = .ok (.iload_n 3, 1) := by decide +kernel
theorem dX7_row_39 : decode cX7_row 39 = .ok (.invokevirtual 81, 3) := by decide +kernel
theorem dX7_row_42 : decode cX7_row 42 = .ok (.iconst 1, 1) := by decide +kernel
theorem dX7_row_43 : decode cX7_row 43 = .ok (.ireturn, 1) := by decide +kernel
theorem dX7_set_0 : decode cX7_set 0 = .ok (.aload_n 0, 1) := by decide +kernel
theorem dX7_set_1 : decode cX7_set 1 = .ok (.iload_n 1, 1) := by decide +kernel
theorem dX7_set_2 : decode cX7_set 2 = .ok (.iconst 0, 1) := by decide +kernel
theorem dX7_set_3 : decode cX7_set 3 = .ok (.invokevirtual 85, 3) := by decide +kernel
theorem dX7_set_6 : decode cX7_set 6 = .ok (.istore 5, 2) := by decide +kernel
theorem dX7_set_8 : decode cX7_set 8 = .ok (.iload 5, 2) := by decide +kernel
theorem dX7_set_10 : decode cX7_set 10 = .ok (.ifCond .eq 10, 3) := by decide +kernel
theorem dX7_set_13 : decode cX7_set 13 = .ok (.aload_n 0, 1) := by decide +kernel
theorem dX7_set_14 : decode cX7_set 14 = .ok (.iload 5, 2) := by decide +kernel
theorem dX7_set_16 : decode cX7_set 16 = .ok (.invokevirtual 77, 3) := by decide +kernel
theorem dX7_set_19 : decode cX7_set 19 = .ok (.ireturn, 1) := by decide +kernel
theorem dX7_set_20 : decode cX7_set 20 = .ok (.aload_n 0, 1) := by decide +kernel
theorem dX7_set_21 : decode cX7_set 21 = .ok (.getfield 56, 3) := by decide +kernel
theorem dX7_set_24 : decode cX7_set 24 = .ok (.iload_n 1, 1) := by decide +kernel
theorem dX7_set_25 : decode cX7_set 25 = .ok (.aaload, 1) := by decide +kernel
theorem dX7_set_26 : decode cX7_set 26 = .ok (.iload_n 2, 1) := by decide +kernel
theorem dX7_set_27 : decode cX7_set 27 = .ok (.invokevirtual 89, 3) := by decide +kernel
theorem dX7_set_30 : decode cX7_set 30 = .ok (.ifCond .ne 10, 3) := by decide +kernel
theorem dX7_set_33 : decode cX7_set 33 = .ok (.aload_n 0, 1) := by decide +kernel
theorem dX7_set_34 : decode cX7_set 34 = .ok (.bipush (-2), 2) := by decide +kernel
theorem dX7_set_36 : decode cX7_set 36 = .ok (.invokevirtual 77, 3) := by decide +kernel
theorem dX7_set_39 : decode cX7_set 39 = .ok (.ireturn, 1) := by decide +kernel
theorem dX7_set_40 : decode cX7_set 40 = .ok (.aload_n 0, 1) := by decide +kernel
theorem dX7_set_41 : decode cX7_set 41 = .ok (.getfield 56, 3) := by decide +kernel
theorem dX7_set_44 : decode cX7_set 44 = .ok (.iload_n 1, 1) := by decide +kernel
theorem dX7_set_45 : decode cX7_set 45 = .ok (.aaload, 1) := by decide +kernel
theorem dX7_set_46 : decode cX7_set 46 = .ok (.iload_n 2, 1) := by decide +kernel
theorem dX7_set_47 : decode cX7_set 47 = .ok (.lload_n 3, 1) := by decide +kernel
theorem dX7_set_48 : decode cX7_set 48 = .ok (.invokevirtual 92, 3) := by decide +kernel
theorem dX7_set_51 : decode cX7_set 51 = .ok (.iconst 1, 1) := by decide +kernel
theorem dX7_set_52 : decode cX7_set 52 = .ok (.ireturn, 1) := by decide +kernel
theorem dX7_copy_0 : decode cX7_copy 0 = .ok (.iload_n 1, 1) := by decide +kernel
theorem dX7_copy_1 : decode cX7_copy 1 = .ok (.invokestatic 69, 3) := by decide +kernel
theorem dX7_copy_4 : decode cX7_copy 4 = .ok (.ifCond .eq 10, 3) := by decide +kernel
theorem dX7_copy_7 : decode cX7_copy 7 = .ok (.iload_n 2, 1) := by decide +kernel
theorem dX7_copy_8 : decode cX7_copy 8 = .ok (.invokestatic 69, 3) := by decide +kernel
theorem dX7_copy_11 : decode cX7_copy 11 = .ok (.ifCond .ne 10, 3) := by decide +kernel
theorem dX7_copy_14 : decode cX7_copy 14 = .ok (.aload_n 0, 1) := by decide +kernel
theorem dX7_copy_15 : decode cX7_copy 15 = .ok (.bipush (-2), 2) := by decide +kernel
theorem dX7_copy_17 : decode cX7_copy 17 = .ok (.invokevirtual 77, 3) := by decide +kernel
theorem dX7_copy_20 : decode cX7_copy 20 = .ok (.ireturn, 1) := by decide +kernel
theorem dX7_copy_21 : decode cX7_copy 21 = .ok (.aload_n 0, 1) := by decide +kernel
theorem dX7_copy_22 : decode cX7_copy 22 = .ok (.getfield 56, 3) := by decide +kernel
theorem dX7_copy_25 : decode cX7_copy 25 = .ok (.iload_n 1, 1) := by decide +kernel
theorem dX7_copy_26 : decode cX7_copy 26 = .ok (.aaload, 1) := by decide +kernel
theorem dX7_copy_27 : decode cX7_copy 27 = .ok (.astore 6, 2) := by decide +kernel
theorem dX7_copy_29 : decode cX7_copy 29 = .ok (.aload_n 0, 1) := by decide +kernel
theorem dX7_copy_30 : decode cX7_copy 30 = .ok (.getfield 56, 3) := by decide +kernel
theorem dX7_copy_33 : decode cX7_copy 33 = .ok (.iload_n 2, 1) := by decide +kernel
theorem dX7_copy_34 : decode cX7_copy 34 = .ok (.aaload, 1) := by decide +kernel
theorem dX7_copy_35 : decode cX7_copy 35 = .ok (.astore 7, 2) := by decide +kernel
theorem dX7_copy_37 : decode cX7_copy 37 = .ok (.aload 6, 2) := by decide +kernel
theorem dX7_copy_39 : decode cX7_copy 39 = .ok (.invokevirtual 96, 3) := by decide +kernel
theorem dX7_copy_42 : decode cX7_copy 42 = .ok (.ifCond .ne 11, 3) := by decide +kernel
theorem dX7_copy_45 : decode cX7_copy 45 = .ok (.aload 7, 2) := by decide +kernel
theorem dX7_copy_47 : decode cX7_copy 47 = .ok (.invokevirtual 96, 3) := by decide +kernel
theorem dX7_copy_50 : decode cX7_copy 50 = .ok (.ifCond .eq 10, 3) := by decide +kernel
theorem dX7_copy_53 : decode cX7_copy 53 = .ok (.aload_n 0, 1) := by decide +kernel
theorem dX7_copy_54 : decode cX7_copy 54 = .ok (.bipush (-3), 2) := by decide +kernel
theorem dX7_copy_56 : decode cX7_copy 56 = .ok (.invokevirtual 77, 3) := by decide +kernel
theorem dX7_copy_59 : decode cX7_copy 59 = .ok (.ireturn, 1) := by decide +kernel
theorem dX7_copy_60 : decode cX7_copy 60 = .ok (.aload 6, 2) := by decide +kernel
theorem dX7_copy_62 : decode cX7_copy 62 = .ok (.invokevirtual 100, 3) := by decide +kernel
theorem dX7_copy_65 : decode cX7_copy 65 = .ok (.ifCond .ne 11, 3) := by decide +kernel
theorem dX7_copy_68 : decode cX7_copy 68 = .ok (.aload 7, 2) := by decide +kernel
theorem dX7_copy_70 : decode cX7_copy 70 = .ok (.invokevirtual 100, 3) := by decide +kernel
theorem dX7_copy_73 : decode cX7_copy 73 = .ok (.ifCond .eq 10, 3) := by decide +kernel
theorem dX7_copy_76 : decode cX7_copy 76 = .ok (.aload_n 0, 1) := by decide +kernel
theorem dX7_copy_77 : decode cX7_copy 77 = .ok (.bipush (-4), 2) := by decide +kernel
theorem dX7_copy_79 : decode cX7_copy 79 = .ok (.invokevirtual 77, 3) := by decide +kernel
theorem dX7_copy_82 : decode cX7_copy 82 = .ok (.ireturn, 1) := by decide +kernel
theorem dX7_copy_83 : decode cX7_copy 83 = .ok (.aload 6, 2) := by decide +kernel
theorem dX7_copy_85 : decode cX7_copy 85 = .ok (.getfield 103, 3) := by decide +kernel
theorem dX7_copy_88 : decode cX7_copy 88 = .ok (.aload 7, 2) := by decide +kernel
theorem dX7_copy_90 : decode cX7_copy 90 = .ok (.getfield 103, 3) := by decide +kernel
theorem dX7_copy_93 : decode cX7_copy 93 = .ok (.if_icmp .eq 10, 3) := by decide +kernel
theorem dX7_copy_96 : decode cX7_copy 96 = .ok (.aload_n 0, 1) := by decide +kernel
theorem dX7_copy_97 : decode cX7_copy 97 = .ok (.bipush (-3), 2) := by decide +kernel
theorem dX7_copy_99 : decode cX7_copy 99 = .ok (.invokevirtual 77, 3) := by decide +kernel
theorem dX7_copy_102 : decode cX7_copy 102 = .ok (.ireturn, 1) := by decide +kernel
theorem dX7_copy_103 : decode cX7_copy 103 = .ok (.aload 6, 2) := by decide +kernel
theorem dX7_copy_105 : decode cX7_copy 105 = .ok (.iload_n 3, 1) := by decide +kernel
theorem dX7_copy_106 : decode cX7_copy 106 = .ok (.iload 5, 2) := by decide +kernel
theorem dX7_copy_108 : decode cX7_copy 108 = .ok (.invokevirtual 107, 3) := by decide +kernel
theorem dX7_copy_111 : decode cX7_copy 111 = .ok (.ifCond .eq 15, 3) := by decide +kernel
theorem dX7_copy_114 : decode cX7_copy 114 = .ok (.aload 7, 2) := by decide +kernel
theorem dX7_copy_116 : decode cX7_copy 116 = .ok (.iload 4, 2) := by decide +kernel
theorem dX7_copy_118 : decode cX7_copy 118 = .ok (.iload 5, 2) := by decide +kernel
theorem dX7_copy_120 : decode cX7_copy 120 = .ok (.invokevirtual 107, 3) := by decide +kernel
theorem dX7_copy_123 : decode cX7_copy 123 = .ok (.ifCond .ne 10, 3) := by decide +kernel
theorem dX7_copy_126 : decode cX7_copy 126 = .ok (.aload_n 0, 1) := by decide +kernel
theorem dX7_copy_127 : decode cX7_copy 127 = .ok (.bipush (-2), 2) := by decide +kernel
theorem dX7_copy_129 : decode cX7_copy 129 = .ok (.invokevirtual 77, 3) := by decide +kernel
theorem dX7_copy_132 : decode cX7_copy 132 = .ok (.ireturn, 1) := by decide +kernel
theorem dX7_copy_133 : decode cX7_copy 133 = .ok (.aload 6, 2) := by decide +kernel
theorem dX7_copy_135 : decode cX7_copy 135 = .ok (.getfield 110, 3) := by decide +kernel
theorem dX7_copy_138 : decode cX7_copy 138 = .ok (.iload_n 3, 1) := by decide +kernel
theorem dX7_copy_139 : decode cX7_copy 139 = .ok (.aload 7, 2) := by decide +kernel
theorem dX7_copy_141 : decode cX7_copy 141 = .ok (.getfield 110, 3) := by decide +kernel
theorem dX7_copy_144 : decode cX7_copy 144 = .ok (.iload 4, 2) := by decide +kernel
theorem dX7_copy_146 : decode cX7_copy 146 = .ok (.iload 5, 2) := by decide +kernel
theorem dX7_copy_148 : decode cX7_copy 148 = .ok (.invokestatic 114, 3) := by decide +kernel
theorem dX7_copy_151 : decode cX7_copy 151 = .ok (.iload 5, 2) := by decide +kernel
theorem dX7_copy_153 : decode cX7_copy 153 = .ok (.ireturn, 1) := by decide +kernel
theorem dX7_element_0 : decode cX7_element 0 = .ok (.iload_n 1, 1) := by decide +kernel
theorem dX7_element_1 : decode cX7_element 1 = .ok (.invokestatic 69, 3) := by decide +kernel
theorem dX7_element_4 : decode cX7_element 4 = .ok (.ifCond .eq 16, 3) := by decide +kernel
theorem dX7_element_7 : decode cX7_element 7 = .ok (.aload_n 0, 1) := by decide +kernel
theorem dX7_element_8 : decode cX7_element 8 = .ok (.getfield 56, 3) := by decide +kernel
theorem dX7_element_11 : decode cX7_element 11 = .ok (.iload_n 1, 1) := by decide +kernel
theorem dX7_element_12 : decode cX7_element 12 = .ok (.aaload, 1) := by decide +kernel
theorem dX7_element_13 : decode cX7_element 13 = .ok (.iload_n 2, 1) := by decide +kernel
theorem dX7_element_14 : decode cX7_element 14 = .ok (.invokevirtual 120, 3) := by decide +kernel
theorem dX7_element_17 : decode cX7_element 17 = .ok (.goto 4, 3) := by decide +kernel
theorem dX7_element_20 : decode cX7_element 20 = .ok (.lconst 0, 1) := by decide +kernel
theorem dX7_element_21 : decode cX7_element 21 = .ok (.lreturn, 1) := by decide +kernel
theorem dX7_holds_0 : decode cX7_holds 0 = .ok (.iload_n 1, 1) := by decide +kernel
theorem dX7_holds_1 : decode cX7_holds 1 = .ok (.invokestatic 69, 3) := by decide +kernel
theorem dX7_holds_4 : decode cX7_holds 4 = .ok (.ifCond .ne 5, 3) := by decide +kernel
theorem dX7_holds_7 : decode cX7_holds 7 = .ok (.iconst (-1), 1) := by decide +kernel
theorem dX7_holds_8 : decode cX7_holds 8 = .ok (.ireturn, 1) := by decide +kernel
theorem dX7_holds_9 : decode cX7_holds 9 = .ok (.aload_n 0, 1) := by decide +kernel
theorem dX7_holds_10 : decode cX7_holds 10 = .ok (.getfield 56, 3) := by decide +kernel
theorem dX7_holds_13 : decode cX7_holds 13 = .ok (.iload_n 1, 1) := by decide +kernel
theorem dX7_holds_14 : decode cX7_holds 14 = .ok (.aaload, 1) := by decide +kernel
theorem dX7_holds_15 : decode cX7_holds 15 = .ok (.invokevirtual 96, 3) := by decide +kernel
theorem dX7_holds_18 : decode cX7_holds 18 = .ok (.ifCond .eq 18, 3) := by decide +kernel
theorem dX7_holds_21 : decode cX7_holds 21 = .ok (.bipush 10, 2) := by decide +kernel
theorem dX7_holds_23 : decode cX7_holds 23 = .ok (.aload_n 0, 1) := by decide +kernel
theorem dX7_holds_24 : decode cX7_holds 24 = .ok (.getfield 56, 3) := by decide +kernel
theorem dX7_holds_27 : decode cX7_holds 27 = .ok (.iload_n 1, 1) := by decide +kernel
theorem dX7_holds_28 : decode cX7_holds 28 = .ok (.aaload, 1) := by decide +kernel
theorem dX7_holds_29 : decode cX7_holds 29 = .ok (.getfield 124, 3) := by decide +kernel
theorem dX7_holds_32 : decode cX7_holds 32 = .ok (.iadd, 1) := by decide +kernel
theorem dX7_holds_33 : decode cX7_holds 33 = .ok (.goto 12, 3) := by decide +kernel
theorem dX7_holds_36 : decode cX7_holds 36 = .ok (.aload_n 0, 1) := by decide +kernel
theorem dX7_holds_37 : decode cX7_holds 37 = .ok (.getfield 56, 3) := by decide +kernel
theorem dX7_holds_40 : decode cX7_holds 40 = .ok (.iload_n 1, 1) := by decide +kernel
theorem dX7_holds_41 : decode cX7_holds 41 = .ok (.aaload, 1) := by decide +kernel
theorem dX7_holds_42 : decode cX7_holds 42 = .ok (.getfield 103, 3) := by decide +kernel
theorem dX7_holds_45 : decode cX7_holds 45 = .ok (.ireturn, 1) := by decide +kernel
theorem dX7_show_0 : decode cX7_show 0 = .ok (.iload_n 1, 1) := by decide +kernel
theorem dX7_show_1 : decode cX7_show 1 = .ok (.invokestatic 69, 3) := by decide +kernel
theorem dX7_show_4 : decode cX7_show 4 = .ok (.ifCond .eq 19, 3) := by decide +kernel
theorem dX7_show_7 : decode cX7_show 7 = .ok (.iload_n 2, 1) := by decide +kernel
theorem dX7_show_8 : decode cX7_show 8 = .ok (.iconst (-1), 1) := by decide +kernel
theorem dX7_show_9 : decode cX7_show 9 = .ok (.if_icmp .eq 21, 3) := by decide +kernel
theorem dX7_show_12 : decode cX7_show 12 = .ok (.aload_n 0, 1) := by decide +kernel
theorem dX7_show_13 : decode cX7_show 13 = .ok (.getfield 10, 3) := by decide +kernel
theorem dX7_show_16 : decode cX7_show 16 = .ok (.iload_n 2, 1) := by decide +kernel
theorem dX7_show_17 : decode cX7_show 17 = .ok (.invokevirtual 127, 3) := by decide +kernel
theorem dX7_show_20 : decode cX7_show 20 = .ok (.ifCond .ne 10, 3) := by decide +kernel
theorem dX7_show_23 : decode cX7_show 23 = .ok (.aload_n 0, 1) := by decide +kernel
theorem dX7_show_24 : decode cX7_show 24 = .ok (.bipush (-2), 2) := by decide +kernel
theorem dX7_show_26 : decode cX7_show 26 = .ok (.invokevirtual 77, 3) := by decide +kernel
theorem dX7_show_29 : decode cX7_show 29 = .ok (.ireturn, 1) := by decide +kernel
theorem dX7_show_30 : decode cX7_show 30 = .ok (.aload_n 0, 1) := by decide +kernel
theorem dX7_show_31 : decode cX7_show 31 = .ok (.getfield 56, 3) := by decide +kernel
theorem dX7_show_34 : decode cX7_show 34 = .ok (.iload_n 1, 1) := by decide +kernel
theorem dX7_show_35 : decode cX7_show 35 = .ok (.aaload, 1) := by decide +kernel
theorem dX7_show_36 : decode cX7_show 36 = .ok (.iload_n 2, 1) := by decide +kernel
theorem dX7_show_37 : decode cX7_show 37 = .ok (.invokevirtual 130, 3) := by decide +kernel
theorem dX7_show_40 : decode cX7_show 40 = .ok (.iconst 1, 1) := by decide +kernel
theorem dX7_show_41 : decode cX7_show 41 = .ok (.ireturn, 1) := by decide +kernel
theorem dX7_says_0 : decode cX7_says 0 = .ok (.iload_n 1, 1) := by decide +kernel
theorem dX7_says_1 : decode cX7_says 1 = .ok (.invokestatic 69, 3) := by decide +kernel
theorem dX7_says_4 : decode cX7_says 4 = .ok (.ifCond .eq 10, 3) := by decide +kernel
theorem dX7_says_7 : decode cX7_says 7 = .ok (.iload_n 2, 1) := by decide +kernel
theorem dX7_says_8 : decode cX7_says 8 = .ok (.invokestatic 134, 3) := by decide +kernel
theorem dX7_says_11 : decode cX7_says 11 = .ok (.ifCond .ne 10, 3) := by decide +kernel
theorem dX7_says_14 : decode cX7_says 14 = .ok (.aload_n 0, 1) := by decide +kernel
theorem dX7_says_15 : decode cX7_says 15 = .ok (.bipush (-2), 2) := by decide +kernel
theorem dX7_says_17 : decode cX7_says 17 = .ok (.invokevirtual 77, 3) := by decide +kernel
theorem dX7_says_20 : decode cX7_says 20 = .ok (.ireturn, 1) := by decide +kernel
theorem dX7_says_21 : decode cX7_says 21 = .ok (.aload_n 0, 1) := by decide +kernel
theorem dX7_says_22 : decode cX7_says 22 = .ok (.getfield 56, 3) := by decide +kernel
theorem dX7_says_25 : decode cX7_says 25 = .ok (.iload_n 1, 1) := by decide +kernel
theorem dX7_says_26 : decode cX7_says 26 = .ok (.aaload, 1) := by decide +kernel
theorem dX7_says_27 : decode cX7_says 27 = .ok (.astore_n 3, 1) := by decide +kernel
theorem dX7_says_28 : decode cX7_says 28 = .ok (.aload_n 3, 1) := by decide +kernel
theorem dX7_says_29 : decode cX7_says 29 = .ok (.invokevirtual 137, 3) := by decide +kernel
theorem dX7_says_32 : decode cX7_says 32 = .ok (.ifCond .eq 10, 3) := by decide +kernel
theorem dX7_says_35 : decode cX7_says 35 = .ok (.aload_n 0, 1) := by decide +kernel
theorem dX7_says_36 : decode cX7_says 36 = .ok (.bipush (-3), 2) := by decide +kernel
theorem dX7_says_38 : decode cX7_says 38 = .ok (.invokevirtual 77, 3) := by decide +kernel
theorem dX7_says_41 : decode cX7_says 41 = .ok (.ireturn, 1) := by decide +kernel
theorem dX7_says_42 : decode cX7_says 42 = .ok (.aload_n 3, 1) := by decide +kernel
theorem dX7_says_43 : decode cX7_says 43 = .ok (.getfield 124, 3) := by decide +kernel
theorem dX7_says_46 : decode cX7_says 46 = .ok (.istore 4, 2) := by decide +kernel
theorem dX7_says_48 : decode cX7_says 48 = .ok (.aload_n 0, 1) := by decide +kernel
theorem dX7_says_49 : decode cX7_says 49 = .ok (.getfield 10, 3) := by decide +kernel
theorem dX7_says_52 : decode cX7_says 52 = .ok (.iload 4, 2) := by decide +kernel
theorem dX7_says_54 : decode cX7_says 54 = .ok (.invokevirtual 127, 3) := by decide +kernel
theorem dX7_says_57 : decode cX7_says 57 = .ok (.ifCond .ne 10, 3) := by decide +kernel
theorem dX7_says_60 : decode cX7_says 60 = .ok (.aload_n 0, 1) := by decide +kernel
theorem dX7_says_61 : decode cX7_says 61 = .ok (.bipush (-4), 2) := by decide +kernel
theorem dX7_says_63 : decode cX7_says 63 = .ok (.invokevirtual 77, 3) := by decide +kernel
theorem dX7_says_66 : decode cX7_says 66 = .ok (.ireturn, 1) := by decide +kernel
theorem dX7_says_67 : decode cX7_says 67 = .ok (.aload_n 0, 1) := by decide +kernel
theorem dX7_says_68 : decode cX7_says 68 = .ok (.getfield 10, 3) := by decide +kernel
theorem dX7_says_71 : decode cX7_says 71 = .ok (.getfield 140, 3) := by decide +kernel
theorem dX7_says_74 : decode cX7_says 74 = .ok (.iload 4, 2) := by decide +kernel
theorem dX7_says_76 : decode cX7_says 76 = .ok (.iaload, 1) := by decide +kernel
theorem dX7_says_77 : decode cX7_says 77 = .ok (.iload_n 2, 1) := by decide +kernel
theorem dX7_says_78 : decode cX7_says 78 = .ok (.invokestatic 143, 3) := by decide +kernel
theorem dX7_says_81 : decode cX7_says 81 = .ok (.ifCond .ne 10, 3) := by decide +kernel
theorem dX7_says_84 : decode cX7_says 84 = .ok (.aload_n 0, 1) := by decide +kernel
theorem dX7_says_85 : decode cX7_says 85 = .ok (.bipush (-3), 2) := by decide +kernel
theorem dX7_says_87 : decode cX7_says 87 = .ok (.invokevirtual 77, 3) := by decide +kernel
theorem dX7_says_90 : decode cX7_says 90 = .ok (.ireturn, 1) := by decide +kernel
theorem dX7_says_91 : decode cX7_says 91 = .ok (.iload_n 2, 1) := by decide +kernel
theorem dX7_says_92 : decode cX7_says 92 = .ok (.ifCond .ne 16, 3) := by decide +kernel
theorem dX7_says_95 : decode cX7_says 95 = .ok (.aload_n 0, 1) := by decide +kernel
theorem dX7_says_96 : decode cX7_says 96 = .ok (.getfield 10, 3) := by decide +kernel
theorem dX7_says_99 : decode cX7_says 99 = .ok (.getfield 146, 3) := by decide +kernel
theorem dX7_says_102 : decode cX7_says 102 = .ok (.iload 4, 2) := by decide +kernel
theorem dX7_says_104 : decode cX7_says 104 = .ok (.iaload, 1) := by decide +kernel
theorem dX7_says_105 : decode cX7_says 105 = .ok (.goto 22, 3) := by decide +kernel
theorem dX7_says_108 : decode cX7_says 108 = .ok (.aload_n 0, 1) := by decide +kernel
theorem dX7_says_109 : decode cX7_says 109 = .ok (.getfield 10, 3) := by decide +kernel
theorem dX7_says_112 : decode cX7_says 112 = .ok (.aload_n 0, 1) := by decide +kernel
theorem dX7_says_113 : decode cX7_says 113 = .ok (.getfield 10, 3) := by decide +kernel
theorem dX7_says_116 : decode cX7_says 116 = .ok (.getfield 140, 3) := by decide +kernel
theorem dX7_says_119 : decode cX7_says 119 = .ok (.iload 4, 2) := by decide +kernel
theorem dX7_says_121 : decode cX7_says 121 = .ok (.iaload, 1) := by decide +kernel
theorem dX7_says_122 : decode cX7_says 122 = .ok (.iload 4, 2) := by decide +kernel
theorem dX7_says_124 : decode cX7_says 124 = .ok (.invokevirtual 149, 3) := by decide +kernel
theorem dX7_says_127 : decode cX7_says 127 = .ok (.ireturn, 1) := by decide +kernel
theorem dX7_person_0 : decode cX7_person 0 = .ok (.iload_n 1, 1) := by decide +kernel
theorem dX7_person_1 : decode cX7_person 1 = .ok (.invokestatic 134, 3) := by decide +kernel
theorem dX7_person_4 : decode cX7_person 4 = .ok (.ifCond .eq 21, 3) := by decide +kernel
theorem dX7_person_7 : decode cX7_person 7 = .ok (.iload_n 2, 1) := by decide +kernel
theorem dX7_person_8 : decode cX7_person 8 = .ok (.bipush 9, 2) := by decide +kernel
theorem dX7_person_10 : decode cX7_person 10 = .ok (.invokestatic 73, 3) := by decide +kernel
theorem dX7_person_13 : decode cX7_person 13 = .ok (.ifCond .eq 12, 3) := by decide +kernel
theorem dX7_person_16 : decode cX7_person 16 = .ok (.iload_n 3, 1) := by decide +kernel
theorem dX7_person_17 : decode cX7_person 17 = .ok (.bipush 20, 2) := by decide +kernel
theorem dX7_person_19 : decode cX7_person 19 = .ok (.invokestatic 73, 3) := by decide +kernel
theorem dX7_person_22 : decode cX7_person 22 = .ok (.ifCond .ne 10, 3) := by decide +kernel
theorem dX7_person_25 : decode cX7_person 25 = .ok (.aload_n 0, 1) := by decide +kernel
theorem dX7_person_26 : decode cX7_person 26 = .ok (.bipush (-2), 2) := by decide +kernel
theorem dX7_person_28 : decode cX7_person 28 = .ok (.invokevirtual 77, 3) := by decide +kernel
theorem dX7_person_31 : decode cX7_person 31 = .ok (.ireturn, 1) := by decide +kernel
theorem dX7_person_32 : decode cX7_person 32 = .ok (.aload_n 0, 1) := by decide +kernel
theorem dX7_person_33 : decode cX7_person 33 = .ok (.getfield 10, 3) := by decide +kernel
theorem dX7_person_36 : decode cX7_person 36 = .ok (.invokevirtual 152, 3) := by decide +kernel
theorem dX7_person_39 : decode cX7_person 39 = .ok (.ifCond .eq 12, 3) := by decide +kernel
theorem dX7_person_42 : decode cX7_person 42 = .ok (.aload_n 0, 1) := by decide +kernel
theorem dX7_person_43 : decode cX7_person 43 = .ok (.bipush (-6), 2) := by decide +kernel
theorem dX7_person_45 : decode cX7_person 45 = .ok (.invokevirtual 77, 3) := by decide +kernel
theorem dX7_person_48 : decode cX7_person 48 = .ok (.goto 13, 3) := by decide +kernel
theorem dX7_person_51 : decode cX7_person 51 = .ok (.aload_n 0, 1) := by decide +kernel
theorem dX7_person_52 : decode cX7_person 52 = .ok (.getfield 10, 3) := by decide +kernel
theorem dX7_person_55 : decode cX7_person 55 = .ok (.iload_n 1, 1) := by decide +kernel
theorem dX7_person_56 : decode cX7_person 56 = .ok (.iload_n 2, 1) := by decide +kernel
theorem dX7_person_57 : decode cX7_person 57 = .ok (.iload_n 3, 1) := by decide +kernel
theorem dX7_person_58 : decode cX7_person 58 = .ok (.invokevirtual 155, 3) := by decide +kernel
theorem dX7_person_61 : decode cX7_person 61 = .ok (.ireturn, 1) := by decide +kernel
theorem dX7_give_0 : decode cX7_give 0 = .ok (.aload_n 0, 1) := by decide +kernel
theorem dX7_give_1 : decode cX7_give 1 = .ok (.getfield 10, 3) := by decide +kernel
theorem dX7_give_4 : decode cX7_give 4 = .ok (.iload_n 1, 1) := by decide +kernel
theorem dX7_give_5 : decode cX7_give 5 = .ok (.invokevirtual 127, 3) := by decide +kernel
theorem dX7_give_8 : decode cX7_give 8 = .ok (.ifCond .eq 16, 3) := by decide +kernel
theorem dX7_give_11 : decode cX7_give 11 = .ok (.iload_n 2, 1) := by decide +kernel
theorem dX7_give_12 : decode cX7_give 12 = .ok (.getstatic 159, 3) := by decide +kernel
theorem dX7_give_15 : decode cX7_give 15 = .ok (.arraylength, 1) := by decide +kernel
theorem dX7_give_16 : decode cX7_give 16 = .ok (.iconst 1, 1) := by decide +kernel
theorem dX7_give_17 : decode cX7_give 17 = .ok (.isub, 1) := by decide +kernel
theorem dX7_give_18 : decode cX7_give 18 = .ok (.invokestatic 73, 3) := by decide +kernel
theorem dX7_give_21 : decode cX7_give 21 = .ok (.ifCond .ne 10, 3) := by decide +kernel
theorem dX7_give_24 : decode cX7_give 24 = .ok (.aload_n 0, 1) := by decide +kernel
theorem dX7_give_25 : decode cX7_give 25 = .ok (.bipush (-2), 2) := by decide +kernel
theorem dX7_give_27 : decode cX7_give 27 = .ok (.invokevirtual 77, 3) := by decide +kernel
theorem dX7_give_30 : decode cX7_give 30 = .ok (.ireturn, 1) := by decide +kernel
theorem dX7_give_31 : decode cX7_give 31 = .ok (.iload_n 3, 1) := by decide +kernel
theorem dX7_give_32 : decode cX7_give 32 = .ok (.getstatic 159, 3) := by decide +kernel
theorem dX7_give_35 : decode cX7_give 35 = .ok (.iload_n 2, 1) := by decide +kernel
theorem dX7_give_36 : decode cX7_give 36 = .ok (.iaload, 1) := by decide +kernel
theorem dX7_give_37 : decode cX7_give 37 = .ok (.invokestatic 73, 3) := by decide +kernel
theorem dX7_give_40 : decode cX7_give 40 = .ok (.ifCond .ne 10, 3) := by decide +kernel
theorem dX7_give_43 : decode cX7_give 43 = .ok (.aload_n 0, 1) := by decide +kernel
theorem dX7_give_44 : decode cX7_give 44 = .ok (.bipush (-2), 2) := by decide +kernel
theorem dX7_give_46 : decode cX7_give 46 = .ok (.invokevirtual 77, 3) := by decide +kernel
theorem dX7_give_49 : decode cX7_give 49 = .ok (.ireturn, 1) := by decide +kernel
theorem dX7_give_50 : decode cX7_give 50 = .ok (.iload_n 2, 1) := by decide +kernel
theorem dX7_give_51 : decode cX7_give 51 = .ok (.ifCond .ne 13, 3) := by decide +kernel
theorem dX7_give_54 : decode cX7_give 54 = .ok (.aload_n 0, 1) := by decide +kernel
theorem dX7_give_55 : decode cX7_give 55 = .ok (.getfield 10, 3) := by decide +kernel
theorem dX7_give_58 : decode cX7_give 58 = .ok (.getfield 146, 3) := by decide +kernel
theorem dX7_give_61 : decode cX7_give 61 = .ok (.goto 25, 3) := by decide +kernel
theorem dX7_give_64 : decode cX7_give 64 = .ok (.iload_n 2, 1) := by decide +kernel
theorem dX7_give_65 : decode cX7_give 65 = .ok (.iconst 1, 1) := by decide +kernel
theorem dX7_give_66 : decode cX7_give 66 = .ok (.if_icmp .ne 13, 3) := by decide +kernel
theorem dX7_give_69 : decode cX7_give 69 = .ok (.aload_n 0, 1) := by decide +kernel
theorem dX7_give_70 : decode cX7_give 70 = .ok (.getfield 10, 3) := by decide +kernel
theorem dX7_give_73 : decode cX7_give 73 = .ok (.getfield 162, 3) := by decide +kernel
theorem dX7_give_76 : decode cX7_give 76 = .ok (.goto 10, 3) := by decide +kernel
theorem dX7_give_79 : decode cX7_give 79 = .ok (.aload_n 0, 1) := by decide +kernel
theorem dX7_give_80 : decode cX7_give 80 = .ok (.getfield 10, 3) := by decide +kernel
theorem dX7_give_83 : decode cX7_give 83 = .ok (.getfield 165, 3) := by decide +kernel
theorem dX7_give_86 : decode cX7_give 86 = .ok (.astore 4, 2) := by decide +kernel
theorem dX7_give_88 : decode cX7_give 88 = .ok (.aload 4, 2) := by decide +kernel
theorem dX7_give_90 : decode cX7_give 90 = .ok (.iload_n 1, 1) := by decide +kernel
theorem dX7_give_91 : decode cX7_give 91 = .ok (.iaload, 1) := by decide +kernel
theorem dX7_give_92 : decode cX7_give 92 = .ok (.istore 5, 2) := by decide +kernel
theorem dX7_give_94 : decode cX7_give 94 = .ok (.aload 4, 2) := by decide +kernel
theorem dX7_give_96 : decode cX7_give 96 = .ok (.iload_n 1, 1) := by decide +kernel
theorem dX7_give_97 : decode cX7_give 97 = .ok (.iload_n 3, 1) := by decide +kernel
theorem dX7_give_98 : decode cX7_give 98 = .ok (.iastore, 1) := by decide +kernel
theorem dX7_give_99 : decode cX7_give 99 = .ok (.iload 5, 2) := by decide +kernel
theorem dX7_give_101 : decode cX7_give 101 = .ok (.ireturn, 1) := by decide +kernel
theorem dX7_tell_0 : decode cX7_tell 0 = .ok (.iload_n 1, 1) := by decide +kernel
theorem dX7_tell_1 : decode cX7_tell 1 = .ok (.getstatic 168, 3) := by decide +kernel
theorem dX7_tell_4 : decode cX7_tell 4 = .ok (.arraylength, 1) := by decide +kernel
theorem dX7_tell_5 : decode cX7_tell 5 = .ok (.iconst 1, 1) := by decide +kernel
theorem dX7_tell_6 : decode cX7_tell 6 = .ok (.isub, 1) := by decide +kernel
theorem dX7_tell_7 : decode cX7_tell 7 = .ok (.invokestatic 73, 3) := by decide +kernel
theorem dX7_tell_10 : decode cX7_tell 10 = .ok (.ifCond .eq 15, 3) := by decide +kernel
theorem dX7_tell_13 : decode cX7_tell 13 = .ok (.iload_n 2, 1) := by decide +kernel
theorem dX7_tell_14 : decode cX7_tell 14 = .ok (.getstatic 168, 3) := by decide +kernel
theorem dX7_tell_17 : decode cX7_tell 17 = .ok (.iload_n 1, 1) := by decide +kernel
theorem dX7_tell_18 : decode cX7_tell 18 = .ok (.iaload, 1) := by decide +kernel
theorem dX7_tell_19 : decode cX7_tell 19 = .ok (.invokestatic 73, 3) := by decide +kernel
theorem dX7_tell_22 : decode cX7_tell 22 = .ok (.ifCond .ne 10, 3) := by decide +kernel
theorem dX7_tell_25 : decode cX7_tell 25 = .ok (.aload_n 0, 1) := by decide +kernel
theorem dX7_tell_26 : decode cX7_tell 26 = .ok (.bipush (-2), 2) := by decide +kernel
theorem dX7_tell_28 : decode cX7_tell 28 = .ok (.invokevirtual 77, 3) := by decide +kernel
theorem dX7_tell_31 : decode cX7_tell 31 = .ok (.ireturn, 1) := by decide +kernel
theorem dX7_tell_32 : decode cX7_tell 32 = .ok (.aload_n 0, 1) := by decide +kernel
theorem dX7_tell_33 : decode cX7_tell 33 = .ok (.getfield 10, 3) := by decide +kernel
theorem dX7_tell_36 : decode cX7_tell 36 = .ok (.iload_n 1, 1) := by decide +kernel
theorem dX7_tell_37 : decode cX7_tell 37 = .ok (.iload_n 2, 1) := by decide +kernel
theorem dX7_tell_38 : decode cX7_tell 38 = .ok (.invokevirtual 171, 3) := by decide +kernel
theorem dX7_tell_41 : decode cX7_tell 41 = .ok (.ireturn, 1) := by decide +kernel
theorem dX7_thaw_0 : decode cX7_thaw 0 = .ok (.aload_n 0, 1) := by decide +kernel
theorem dX7_thaw_1 : decode cX7_thaw 1 = .ok (.getfield 10, 3) := by decide +kernel
theorem dX7_thaw_4 : decode cX7_thaw 4 = .ok (.getfield 174, 3) := by decide +kernel
theorem dX7_thaw_7 : decode cX7_thaw 7 = .ok (.iconst (-1), 1) := by decide +kernel
theorem dX7_thaw_8 : decode cX7_thaw 8 = .ok (.if_icmp .eq 7, 3) := by decide +kernel
theorem dX7_thaw_11 : decode cX7_thaw 11 = .ok (.iconst 1, 1) := by decide +kernel
theorem dX7_thaw_12 : decode cX7_thaw 12 = .ok (.goto 4, 3) := by decide +kernel
theorem dX7_thaw_15 : decode cX7_thaw 15 = .ok (.iconst 0, 1) := by decide +kernel
theorem dX7_thaw_16 : decode cX7_thaw 16 = .ok (.istore_n 1, 1) := by decide +kernel
theorem dX7_thaw_17 : decode cX7_thaw 17 = .ok (.aload_n 0, 1) := by decide +kernel
theorem dX7_thaw_18 : decode cX7_thaw 18 = .ok (.getfield 10, 3) := by decide +kernel
theorem dX7_thaw_21 : decode cX7_thaw 21 = .ok (.iconst (-1), 1) := by decide +kernel
theorem dX7_thaw_22 : decode cX7_thaw 22 = .ok (.putfield 174, 3) := by decide +kernel
theorem dX7_thaw_25 : decode cX7_thaw 25 = .ok (.iload_n 1, 1) := by decide +kernel
theorem dX7_thaw_26 : decode cX7_thaw 26 = .ok (.invokestatic 177, 3) := by decide +kernel
theorem dX7_thaw_29 : decode cX7_thaw 29 = .ok (.ireturn, 1) := by decide +kernel
theorem dX7_feed_0 : decode cX7_feed 0 = .ok (.iload_n 1, 1) := by decide +kernel
theorem dX7_feed_1 : decode cX7_feed 1 = .ok (.sipush 255, 3) := by decide +kernel
theorem dX7_feed_4 : decode cX7_feed 4 = .ok (.invokestatic 73, 3) := by decide +kernel
theorem dX7_feed_7 : decode cX7_feed 7 = .ok (.ifCond .ne 10, 3) := by decide +kernel
theorem dX7_feed_10 : decode cX7_feed 10 = .ok (.aload_n 0, 1) := by decide +kernel
theorem dX7_feed_11 : decode cX7_feed 11 = .ok (.bipush (-2), 2) := by decide +kernel
theorem dX7_feed_13 : decode cX7_feed 13 = .ok (.invokevirtual 77, 3) := by decide +kernel
theorem dX7_feed_16 : decode cX7_feed 16 = .ok (.ireturn, 1) := by decide +kernel
theorem dX7_feed_17 : decode cX7_feed 17 = .ok (.aload_n 0, 1) := by decide +kernel
theorem dX7_feed_18 : decode cX7_feed 18 = .ok (.getfield 50, 3) := by decide +kernel
theorem dX7_feed_21 : decode cX7_feed 21 = .ok (.invokevirtual 181, 3) := by decide +kernel
theorem dX7_feed_24 : decode cX7_feed 24 = .ok (.ifCond .eq 12, 3) := by decide +kernel
theorem dX7_feed_27 : decode cX7_feed 27 = .ok (.aload_n 0, 1) := by decide +kernel
theorem dX7_feed_28 : decode cX7_feed 28 = .ok (.bipush (-6), 2) := by decide +kernel
theorem dX7_feed_30 : decode cX7_feed 30 = .ok (.invokevirtual 77, 3) := by decide +kernel
theorem dX7_feed_33 : decode cX7_feed 33 = .ok (.goto 11, 3) := by decide +kernel
theorem dX7_feed_36 : decode cX7_feed 36 = .ok (.aload_n 0, 1) := by decide +kernel
theorem dX7_feed_37 : decode cX7_feed 37 = .ok (.getfield 50, 3) := by decide +kernel
theorem dX7_feed_40 : decode cX7_feed 40 = .ok (.iload_n 1, 1) := by decide +kernel
theorem dX7_feed_41 : decode cX7_feed 41 = .ok (.invokevirtual 182, 3) := by decide +kernel
theorem dX7_feed_44 : decode cX7_feed 44 = .ok (.ireturn, 1) := by decide +kernel
theorem dX7_wipe_0 : decode cX7_wipe 0 = .ok (.aload_n 0, 1) := by decide +kernel
theorem dX7_wipe_1 : decode cX7_wipe 1 = .ok (.getfield 50, 3) := by decide +kernel
theorem dX7_wipe_4 : decode cX7_wipe 4 = .ok (.invokevirtual 185, 3) := by decide +kernel
theorem dX7_wipe_7 : decode cX7_wipe 7 = .ok (.ireturn, 1) := by decide +kernel
theorem dX7_country_0 : decode cX7_country 0 = .ok (.aload_n 0, 1) := by decide +kernel
theorem dX7_country_1 : decode cX7_country 1 = .ok (.getfield 22, 3) := by decide +kernel
theorem dX7_country_4 : decode cX7_country 4 = .ok (.aload_n 0, 1) := by decide +kernel
theorem dX7_country_5 : decode cX7_country 5 = .ok (.getfield 10, 3) := by decide +kernel
theorem dX7_country_8 : decode cX7_country 8 = .ok (.invokevirtual 189, 3) := by decide +kernel
theorem dX7_country_11 : decode cX7_country 11 = .ok (.astore_n 1, 1) := by decide +kernel
theorem dX7_country_12 : decode cX7_country 12 = .ok (.aload_n 0, 1) := by decide +kernel
theorem dX7_country_13 : decode cX7_country 13 = .ok (.getfield 50, 3) := by decide +kernel
theorem dX7_country_16 : decode cX7_country 16 = .ok (.aload_n 1, 1) := by decide +kernel
theorem dX7_country_17 : decode cX7_country 17 = .ok (.invokevirtual 193, 3) := by decide +kernel
theorem dX7_country_20 : decode cX7_country 20 = .ok (.istore_n 2, 1) := by decide +kernel
theorem dX7_country_21 : decode cX7_country 21 = .ok (.aload_n 0, 1) := by decide +kernel
theorem dX7_country_22 : decode cX7_country 22 = .ok (.getfield 50, 3) := by decide +kernel
theorem dX7_country_25 : decode cX7_country 25 = .ok (.invokevirtual 185, 3) := by decide +kernel
theorem dX7_country_28 : decode cX7_country 28 = .ok (.pop, 1) := by decide +kernel
theorem dX7_country_29 : decode cX7_country 29 = .ok (.iload_n 2, 1) := by decide +kernel
theorem dX7_country_30 : decode cX7_country 30 = .ok (.ifCond .ge 12, 3) := by decide +kernel
theorem dX7_country_33 : decode cX7_country 33 = .ok (.aload_n 0, 1) := by decide +kernel
theorem dX7_country_34 : decode cX7_country 34 = .ok (.bipush (-2), 2) := by decide +kernel
theorem dX7_country_36 : decode cX7_country 36 = .ok (.invokevirtual 77, 3) := by decide +kernel
theorem dX7_country_39 : decode cX7_country 39 = .ok (.pop, 1) := by decide +kernel
theorem dX7_country_40 : decode cX7_country 40 = .ok (.iload_n 2, 1) := by decide +kernel
theorem dX7_country_41 : decode cX7_country 41 = .ok (.ireturn, 1) := by decide +kernel
theorem dX7_country_42 : decode cX7_country 42 = .ok (.aload_n 0, 1) := by decide +kernel
theorem dX7_country_43 : decode cX7_country 43 = .ok (.getfield 10, 3) := by decide +kernel
theorem dX7_country_46 : decode cX7_country 46 = .ok (.aload_n 1, 1) := by decide +kernel
theorem dX7_country_47 : decode cX7_country 47 = .ok (.invokevirtual 197, 3) := by decide +kernel
theorem dX7_country_50 : decode cX7_country 50 = .ok (.iload_n 2, 1) := by decide +kernel
theorem dX7_country_51 : decode cX7_country 51 = .ok (.ireturn, 1) := by decide +kernel
theorem dX7_personOf_0 : decode cX7_personOf 0 = .ok (.aload_n 0, 1) := by decide +kernel
theorem dX7_personOf_1 : decode cX7_personOf 1 = .ok (.getfield 10, 3) := by decide +kernel
theorem dX7_personOf_4 : decode cX7_personOf 4 = .ok (.iload_n 1, 1) := by decide +kernel
theorem dX7_personOf_5 : decode cX7_personOf 5 = .ok (.invokevirtual 127, 3) := by decide +kernel
theorem dX7_personOf_8 : decode cX7_personOf 8 = .ok (.ifCond .ne 10, 3) := by decide +kernel
theorem dX7_personOf_11 : decode cX7_personOf 11 = .ok (.aload_n 0, 1) := by decide +kernel
theorem dX7_personOf_12 : decode cX7_personOf 12 = .ok (.bipush (-2), 2) := by decide +kernel
theorem dX7_personOf_14 : decode cX7_personOf 14 = .ok (.invokevirtual 77, 3) := by decide +kernel
theorem dX7_personOf_17 : decode cX7_personOf 17 = .ok (.ireturn, 1) := by decide +kernel
theorem dX7_personOf_18 : decode cX7_personOf 18 = .ok (.iload_n 2, 1) := by decide +kernel
theorem dX7_personOf_19 : decode cX7_personOf 19 = .ok (.tableswitch 127 0 6 #[41, 51, 61, 71, 81, 91, 109], 41) := by decide +kernel
theorem dX7_personOf_60 : decode cX7_personOf 60 = .ok (.aload_n 0, 1) := by decide +kernel
theorem dX7_personOf_61 : decode cX7_personOf 61 = .ok (.getfield 10, 3) := by decide +kernel
theorem dX7_personOf_64 : decode cX7_personOf 64 = .ok (.getfield 140, 3) := by decide +kernel
theorem dX7_personOf_67 : decode cX7_personOf 67 = .ok (.iload_n 1, 1) := by decide +kernel
theorem dX7_personOf_68 : decode cX7_personOf 68 = .ok (.iaload, 1) := by decide +kernel
theorem dX7_personOf_69 : decode cX7_personOf 69 = .ok (.ireturn, 1) := by decide +kernel
theorem dX7_personOf_70 : decode cX7_personOf 70 = .ok (.aload_n 0, 1) := by decide +kernel
theorem dX7_personOf_71 : decode cX7_personOf 71 = .ok (.getfield 10, 3) := by decide +kernel
theorem dX7_personOf_74 : decode cX7_personOf 74 = .ok (.getfield 201, 3) := by decide +kernel
theorem dX7_personOf_77 : decode cX7_personOf 77 = .ok (.iload_n 1, 1) := by decide +kernel
theorem dX7_personOf_78 : decode cX7_personOf 78 = .ok (.iaload, 1) := by decide +kernel
theorem dX7_personOf_79 : decode cX7_personOf 79 = .ok (.ireturn, 1) := by decide +kernel
theorem dX7_personOf_80 : decode cX7_personOf 80 = .ok (.aload_n 0, 1) := by decide +kernel
theorem dX7_personOf_81 : decode cX7_personOf 81 = .ok (.getfield 10, 3) := by decide +kernel
theorem dX7_personOf_84 : decode cX7_personOf 84 = .ok (.getfield 146, 3) := by decide +kernel
theorem dX7_personOf_87 : decode cX7_personOf 87 = .ok (.iload_n 1, 1) := by decide +kernel
theorem dX7_personOf_88 : decode cX7_personOf 88 = .ok (.iaload, 1) := by decide +kernel
theorem dX7_personOf_89 : decode cX7_personOf 89 = .ok (.ireturn, 1) := by decide +kernel
theorem dX7_personOf_90 : decode cX7_personOf 90 = .ok (.aload_n 0, 1) := by decide +kernel
theorem dX7_personOf_91 : decode cX7_personOf 91 = .ok (.getfield 10, 3) := by decide +kernel
theorem dX7_personOf_94 : decode cX7_personOf 94 = .ok (.getfield 162, 3) := by decide +kernel
theorem dX7_personOf_97 : decode cX7_personOf 97 = .ok (.iload_n 1, 1) := by decide +kernel
theorem dX7_personOf_98 : decode cX7_personOf 98 = .ok (.iaload, 1) := by decide +kernel
theorem dX7_personOf_99 : decode cX7_personOf 99 = .ok (.ireturn, 1) := by decide +kernel
theorem dX7_personOf_100 : decode cX7_personOf 100 = .ok (.aload_n 0, 1) := by decide +kernel
theorem dX7_personOf_101 : decode cX7_personOf 101 = .ok (.getfield 10, 3) := by decide +kernel
theorem dX7_personOf_104 : decode cX7_personOf 104 = .ok (.getfield 165, 3) := by decide +kernel
theorem dX7_personOf_107 : decode cX7_personOf 107 = .ok (.iload_n 1, 1) := by decide +kernel
theorem dX7_personOf_108 : decode cX7_personOf 108 = .ok (.iaload, 1) := by decide +kernel
theorem dX7_personOf_109 : decode cX7_personOf 109 = .ok (.ireturn, 1) := by decide +kernel
theorem dX7_personOf_110 : decode cX7_personOf 110 = .ok (.aload_n 0, 1) := by decide +kernel
theorem dX7_personOf_111 : decode cX7_personOf 111 = .ok (.getfield 10, 3) := by decide +kernel
theorem dX7_personOf_114 : decode cX7_personOf 114 = .ok (.aload_n 0, 1) := by decide +kernel
theorem dX7_personOf_115 : decode cX7_personOf 115 = .ok (.getfield 10, 3) := by decide +kernel
theorem dX7_personOf_118 : decode cX7_personOf 118 = .ok (.getfield 140, 3) := by decide +kernel
theorem dX7_personOf_121 : decode cX7_personOf 121 = .ok (.iload_n 1, 1) := by decide +kernel
theorem dX7_personOf_122 : decode cX7_personOf 122 = .ok (.iaload, 1) := by decide +kernel
theorem dX7_personOf_123 : decode cX7_personOf 123 = .ok (.iload_n 1, 1) := by decide +kernel
theorem dX7_personOf_124 : decode cX7_personOf 124 = .ok (.invokevirtual 149, 3) := by decide +kernel
theorem dX7_personOf_127 : decode cX7_personOf 127 = .ok (.ireturn, 1) := by decide +kernel
theorem dX7_personOf_128 : decode cX7_personOf 128 = .ok (.aload_n 0, 1) := by decide +kernel
theorem dX7_personOf_129 : decode cX7_personOf 129 = .ok (.getfield 10, 3) := by decide +kernel
theorem dX7_personOf_132 : decode cX7_personOf 132 = .ok (.aload_n 0, 1) := by decide +kernel
theorem dX7_personOf_133 : decode cX7_personOf 133 = .ok (.getfield 10, 3) := by decide +kernel
theorem dX7_personOf_136 : decode cX7_personOf 136 = .ok (.getfield 146, 3) := by decide +kernel
theorem dX7_personOf_139 : decode cX7_personOf 139 = .ok (.iload_n 1, 1) := by decide +kernel
theorem dX7_personOf_140 : decode cX7_personOf 140 = .ok (.iaload, 1) := by decide +kernel
theorem dX7_personOf_141 : decode cX7_personOf 141 = .ok (.iload_n 1, 1) := by decide +kernel
theorem dX7_personOf_142 : decode cX7_personOf 142 = .ok (.invokevirtual 204, 3) := by decide +kernel
theorem dX7_personOf_145 : decode cX7_personOf 145 = .ok (.ireturn, 1) := by decide +kernel
theorem dX7_personOf_146 : decode cX7_personOf 146 = .ok (.aload_n 0, 1) := by decide +kernel
theorem dX7_personOf_147 : decode cX7_personOf 147 = .ok (.bipush (-2), 2) := by decide +kernel
theorem dX7_personOf_149 : decode cX7_personOf 149 = .ok (.invokevirtual 77, 3) := by decide +kernel
theorem dX7_personOf_152 : decode cX7_personOf 152 = .ok (.ireturn, 1) := by decide +kernel
theorem dX7_speaks_0 : decode cX7_speaks 0 = .ok (.aload_n 0, 1) := by decide +kernel
theorem dX7_speaks_1 : decode cX7_speaks 1 = .ok (.getfield 10, 3) := by decide +kernel
theorem dX7_speaks_4 : decode cX7_speaks 4 = .ok (.iload_n 1, 1) := by decide +kernel
theorem dX7_speaks_5 : decode cX7_speaks 5 = .ok (.invokevirtual 127, 3) := by decide +kernel
theorem dX7_speaks_8 : decode cX7_speaks 8 = .ok (.ifCond .eq 17, 3) := by decide +kernel
theorem dX7_speaks_11 : decode cX7_speaks 11 = .ok (.aload_n 0, 1) := by decide +kernel
theorem dX7_speaks_12 : decode cX7_speaks 12 = .ok (.getfield 10, 3) := by decide +kernel
theorem dX7_speaks_15 : decode cX7_speaks 15 = .ok (.iload_n 1, 1) := by decide +kernel
theorem dX7_speaks_16 : decode cX7_speaks 16 = .ok (.invokevirtual 207, 3) := by decide +kernel
theorem dX7_speaks_19 : decode cX7_speaks 19 = .ok (.invokestatic 177, 3) := by decide +kernel
theorem dX7_speaks_22 : decode cX7_speaks 22 = .ok (.goto 9, 3) := by decide +kernel
theorem dX7_speaks_25 : decode cX7_speaks 25 = .ok (.aload_n 0, 1) := by decide +kernel
theorem dX7_speaks_26 : decode cX7_speaks 26 = .ok (.bipush (-2), 2) := by decide +kernel
theorem dX7_speaks_28 : decode cX7_speaks 28 = .ok (.invokevirtual 77, 3) := by decide +kernel
theorem dX7_speaks_31 : decode cX7_speaks 31 = .ok (.ireturn, 1) := by decide +kernel
theorem dX7_coldest_0 : decode cX7_coldest 0 = .ok (.aload_n 0, 1) := by decide +kernel
theorem dX7_coldest_1 : decode cX7_coldest 1 = .ok (.getfield 10, 3) := by decide +kernel
theorem dX7_coldest_4 : decode cX7_coldest 4 = .ok (.invokevirtual 210, 3) := by decide +kernel
theorem dX7_coldest_7 : decode cX7_coldest 7 = .ok (.ireturn, 1) := by decide +kernel
theorem dX7_speaking_0 : decode cX7_speaking 0 = .ok (.iconst 0, 1) := by decide +kernel
theorem dX7_speaking_1 : decode cX7_speaking 1 = .ok (.istore_n 1, 1) := by decide +kernel
theorem dX7_speaking_2 : decode cX7_speaking 2 = .ok (.iconst 0, 1) := by decide +kernel
theorem dX7_speaking_3 : decode cX7_speaking 3 = .ok (.istore_n 2, 1) := by decide +kernel
theorem dX7_speaking_4 : decode cX7_speaking 4 = .ok (.iload_n 2, 1) := by decide +kernel
theorem dX7_speaking_5 : decode cX7_speaking 5 = .ok (.aload_n 0, 1) := by decide +kernel
theorem dX7_speaking_6 : decode cX7_speaking 6 = .ok (.getfield 10, 3) := by decide +kernel
theorem dX7_speaking_9 : decode cX7_speaking 9 = .ok (.getfield 213, 3) := by decide +kernel
theorem dX7_speaking_12 : decode cX7_speaking 12 = .ok (.if_icmp .ge 26, 3) := by decide +kernel
theorem dX7_speaking_15 : decode cX7_speaking 15 = .ok (.aload_n 0, 1) := by decide +kernel
theorem dX7_speaking_16 : decode cX7_speaking 16 = .ok (.getfield 10, 3) := by decide +kernel
theorem dX7_speaking_19 : decode cX7_speaking 19 = .ok (.iload_n 2, 1) := by decide +kernel
theorem dX7_speaking_20 : decode cX7_speaking 20 = .ok (.invokevirtual 207, 3) := by decide +kernel
theorem dX7_speaking_23 : decode cX7_speaking 23 = .ok (.ifCond .eq 9, 3) := by decide +kernel
theorem dX7_speaking_26 : decode cX7_speaking 26 = .ok (.iload_n 1, 1) := by decide +kernel
theorem dX7_speaking_27 : decode cX7_speaking 27 = .ok (.iconst 1, 1) := by decide +kernel
theorem dX7_speaking_28 : decode cX7_speaking 28 = .ok (.iload_n 2, 1) := by decide +kernel
theorem dX7_speaking_29 : decode cX7_speaking 29 = .ok (.ishl, 1) := by decide +kernel
theorem dX7_speaking_30 : decode cX7_speaking 30 = .ok (.ior, 1) := by decide +kernel
theorem dX7_speaking_31 : decode cX7_speaking 31 = .ok (.istore_n 1, 1) := by decide +kernel
theorem dX7_speaking_32 : decode cX7_speaking 32 = .ok (.iinc 2 1, 3) := by decide +kernel
theorem dX7_speaking_35 : decode cX7_speaking 35 = .ok (.goto (-31), 3) := by decide +kernel
theorem dX7_speaking_38 : decode cX7_speaking 38 = .ok (.iload_n 1, 1) := by decide +kernel
theorem dX7_speaking_39 : decode cX7_speaking 39 = .ok (.ireturn, 1) := by decide +kernel
theorem dX7_isSo_0 : decode cX7_isSo 0 = .ok (.aload_n 0, 1) := by decide +kernel
theorem dX7_isSo_1 : decode cX7_isSo 1 = .ok (.getfield 10, 3) := by decide +kernel
theorem dX7_isSo_4 : decode cX7_isSo 4 = .ok (.invokevirtual 216, 3) := by decide +kernel
theorem dX7_isSo_7 : decode cX7_isSo 7 = .ok (.invokestatic 177, 3) := by decide +kernel
theorem dX7_isSo_10 : decode cX7_isSo 10 = .ok (.ireturn, 1) := by decide +kernel
theorem dX7_rank_0 : decode cX7_rank 0 = .ok (.iload_n 1, 1) := by decide +kernel
theorem dX7_rank_1 : decode cX7_rank 1 = .ok (.aload_n 0, 1) := by decide +kernel
theorem dX7_rank_2 : decode cX7_rank 2 = .ok (.getfield 10, 3) := by decide +kernel
theorem dX7_rank_5 : decode cX7_rank 5 = .ok (.getfield 213, 3) := by decide +kernel
theorem dX7_rank_8 : decode cX7_rank 8 = .ok (.iconst 1, 1) := by decide +kernel
theorem dX7_rank_9 : decode cX7_rank 9 = .ok (.isub, 1) := by decide +kernel
theorem dX7_rank_10 : decode cX7_rank 10 = .ok (.invokestatic 73, 3) := by decide +kernel
theorem dX7_rank_13 : decode cX7_rank 13 = .ok (.ifCond .eq 14, 3) := by decide +kernel
theorem dX7_rank_16 : decode cX7_rank 16 = .ok (.aload_n 0, 1) := by decide +kernel
theorem dX7_rank_17 : decode cX7_rank 17 = .ok (.getfield 10, 3) := by decide +kernel
theorem dX7_rank_20 : decode cX7_rank 20 = .ok (.iload_n 1, 1) := by decide +kernel
theorem dX7_rank_21 : decode cX7_rank 21 = .ok (.invokevirtual 219, 3) := by decide +kernel
theorem dX7_rank_24 : decode cX7_rank 24 = .ok (.goto 9, 3) := by decide +kernel
theorem dX7_rank_27 : decode cX7_rank 27 = .ok (.aload_n 0, 1) := by decide +kernel
theorem dX7_rank_28 : decode cX7_rank 28 = .ok (.bipush (-2), 2) := by decide +kernel
theorem dX7_rank_30 : decode cX7_rank 30 = .ok (.invokevirtual 77, 3) := by decide +kernel
theorem dX7_rank_33 : decode cX7_rank 33 = .ok (.ireturn, 1) := by decide +kernel
theorem dX7_when_0 : decode cX7_when 0 = .ok (.iload_n 1, 1) := by decide +kernel
theorem dX7_when_1 : decode cX7_when 1 = .ok (.iconst 1, 1) := by decide +kernel
theorem dX7_when_2 : decode cX7_when 2 = .ok (.invokestatic 73, 3) := by decide +kernel
theorem dX7_when_5 : decode cX7_when 5 = .ok (.ifCond .ne 10, 3) := by decide +kernel
theorem dX7_when_8 : decode cX7_when 8 = .ok (.aload_n 0, 1) := by decide +kernel
theorem dX7_when_9 : decode cX7_when 9 = .ok (.bipush (-2), 2) := by decide +kernel
theorem dX7_when_11 : decode cX7_when 11 = .ok (.invokevirtual 77, 3) := by decide +kernel
theorem dX7_when_14 : decode cX7_when 14 = .ok (.ireturn, 1) := by decide +kernel
theorem dX7_when_15 : decode cX7_when 15 = .ok (.aload_n 0, 1) := by decide +kernel
theorem dX7_when_16 : decode cX7_when 16 = .ok (.getfield 22, 3) := by decide +kernel
theorem dX7_when_19 : decode cX7_when 19 = .ok (.aload_n 0, 1) := by decide +kernel
theorem dX7_when_20 : decode cX7_when 20 = .ok (.getfield 10, 3) := by decide +kernel
theorem dX7_when_23 : decode cX7_when 23 = .ok (.invokevirtual 189, 3) := by decide +kernel
theorem dX7_when_26 : decode cX7_when 26 = .ok (.astore_n 2, 1) := by decide +kernel
theorem dX7_when_27 : decode cX7_when 27 = .ok (.aload_n 2, 1) := by decide +kernel
theorem dX7_when_28 : decode cX7_when 28 = .ok (.bipush 60, 2) := by decide +kernel
theorem dX7_when_30 : decode cX7_when 30 = .ok (.invokevirtual 222, 3) := by decide +kernel
theorem dX7_when_33 : decode cX7_when 33 = .ok (.istore_n 3, 1) := by decide +kernel
theorem dX7_when_34 : decode cX7_when 34 = .ok (.iload_n 1, 1) := by decide +kernel
theorem dX7_when_35 : decode cX7_when 35 = .ok (.ifCond .eq 8, 3) := by decide +kernel
theorem dX7_when_38 : decode cX7_when 38 = .ok (.iload_n 3, 1) := by decide +kernel
theorem dX7_when_39 : decode cX7_when 39 = .ok (.iconst (-1), 1) := by decide +kernel
theorem dX7_when_40 : decode cX7_when 40 = .ok (.if_icmp .ne 7, 3) := by decide +kernel
theorem dX7_when_43 : decode cX7_when 43 = .ok (.iload_n 3, 1) := by decide +kernel
theorem dX7_when_44 : decode cX7_when 44 = .ok (.goto 7, 3) := by decide +kernel
theorem dX7_when_47 : decode cX7_when 47 = .ok (.aload_n 2, 1) := by decide +kernel
theorem dX7_when_48 : decode cX7_when 48 = .ok (.invokevirtual 210, 3) := by decide +kernel
theorem dX7_when_51 : decode cX7_when 51 = .ok (.ireturn, 1) := by decide +kernel
theorem dX7_ahead_0 : decode cX7_ahead 0 = .ok (.iload_n 1, 1) := by decide +kernel
theorem dX7_ahead_1 : decode cX7_ahead 1 = .ok (.sipush 200, 3) := by decide +kernel
theorem dX7_ahead_4 : decode cX7_ahead 4 = .ok (.invokestatic 73, 3) := by decide +kernel
theorem dX7_ahead_7 : decode cX7_ahead 7 = .ok (.ifCond .eq 11, 3) := by decide +kernel
theorem dX7_ahead_10 : decode cX7_ahead 10 = .ok (.iload_n 2, 1) := by decide +kernel
theorem dX7_ahead_11 : decode cX7_ahead 11 = .ok (.iconst 2, 1) := by decide +kernel
theorem dX7_ahead_12 : decode cX7_ahead 12 = .ok (.invokestatic 73, 3) := by decide +kernel
theorem dX7_ahead_15 : decode cX7_ahead 15 = .ok (.ifCond .ne 10, 3) := by decide +kernel
theorem dX7_ahead_18 : decode cX7_ahead 18 = .ok (.aload_n 0, 1) := by decide +kernel
theorem dX7_ahead_19 : decode cX7_ahead 19 = .ok (.bipush (-2), 2) := by decide +kernel
theorem dX7_ahead_21 : decode cX7_ahead 21 = .ok (.invokevirtual 77, 3) := by decide +kernel
theorem dX7_ahead_24 : decode cX7_ahead 24 = .ok (.ireturn, 1) := by decide +kernel
theorem dX7_ahead_25 : decode cX7_ahead 25 = .ok (.aload_n 0, 1) := by decide +kernel
theorem dX7_ahead_26 : decode cX7_ahead 26 = .ok (.getfield 22, 3) := by decide +kernel
theorem dX7_ahead_29 : decode cX7_ahead 29 = .ok (.aload_n 0, 1) := by decide +kernel
theorem dX7_ahead_30 : decode cX7_ahead 30 = .ok (.getfield 10, 3) := by decide +kernel
theorem dX7_ahead_33 : decode cX7_ahead 33 = .ok (.invokevirtual 189, 3) := by decide +kernel
theorem dX7_ahead_36 : decode cX7_ahead 36 = .ok (.astore_n 3, 1) := by decide +kernel
theorem dX7_ahead_37 : decode cX7_ahead 37 = .ok (.aload_n 3, 1) := by decide +kernel
theorem dX7_ahead_38 : decode cX7_ahead 38 = .ok (.iload_n 1, 1) := by decide +kernel
theorem dX7_ahead_39 : decode cX7_ahead 39 = .ok (.invokevirtual 225, 3) := by decide +kernel
theorem dX7_ahead_42 : decode cX7_ahead 42 = .ok (.aload_n 3, 1) := by decide +kernel
theorem dX7_ahead_43 : decode cX7_ahead 43 = .ok (.invokevirtual 210, 3) := by decide +kernel
theorem dX7_ahead_46 : decode cX7_ahead 46 = .ok (.istore 4, 2) := by decide +kernel
theorem dX7_ahead_48 : decode cX7_ahead 48 = .ok (.iload_n 2, 1) := by decide +kernel
theorem dX7_ahead_49 : decode cX7_ahead 49 = .ok (.ifCond .ne 8, 3) := by decide +kernel
theorem dX7_ahead_52 : decode cX7_ahead 52 = .ok (.aload_n 3, 1) := by decide +kernel
theorem dX7_ahead_53 : decode cX7_ahead 53 = .ok (.getfield 228, 3) := by decide +kernel
theorem dX7_ahead_56 : decode cX7_ahead 56 = .ok (.ireturn, 1) := by decide +kernel
theorem dX7_ahead_57 : decode cX7_ahead 57 = .ok (.iload_n 2, 1) := by decide +kernel
theorem dX7_ahead_58 : decode cX7_ahead 58 = .ok (.iconst 1, 1) := by decide +kernel
theorem dX7_ahead_59 : decode cX7_ahead 59 = .ok (.if_icmp .ne 6, 3) := by decide +kernel
theorem dX7_ahead_62 : decode cX7_ahead 62 = .ok (.iload 4, 2) := by decide +kernel
theorem dX7_ahead_64 : decode cX7_ahead 64 = .ok (.ireturn, 1) := by decide +kernel
theorem dX7_ahead_65 : decode cX7_ahead 65 = .ok (.iload 4, 2) := by decide +kernel
theorem dX7_ahead_67 : decode cX7_ahead 67 = .ok (.iconst (-1), 1) := by decide +kernel
theorem dX7_ahead_68 : decode cX7_ahead 68 = .ok (.if_icmp .ne 7, 3) := by decide +kernel
theorem dX7_ahead_71 : decode cX7_ahead 71 = .ok (.iconst 0, 1) := by decide +kernel
theorem dX7_ahead_72 : decode cX7_ahead 72 = .ok (.goto 16, 3) := by decide +kernel
theorem dX7_ahead_75 : decode cX7_ahead 75 = .ok (.aload_n 3, 1) := by decide +kernel
theorem dX7_ahead_76 : decode cX7_ahead 76 = .ok (.aload_n 3, 1) := by decide +kernel
theorem dX7_ahead_77 : decode cX7_ahead 77 = .ok (.getfield 140, 3) := by decide +kernel
theorem dX7_ahead_80 : decode cX7_ahead 80 = .ok (.iload 4, 2) := by decide +kernel
theorem dX7_ahead_82 : decode cX7_ahead 82 = .ok (.iaload, 1) := by decide +kernel
theorem dX7_ahead_83 : decode cX7_ahead 83 = .ok (.iload 4, 2) := by decide +kernel
theorem dX7_ahead_85 : decode cX7_ahead 85 = .ok (.invokevirtual 149, 3) := by decide +kernel
theorem dX7_ahead_88 : decode cX7_ahead 88 = .ok (.ireturn, 1) := by decide +kernel
theorem dX7_later_0 : decode cX7_later 0 = .ok (.aload_n 0, 1) := by decide +kernel
theorem dX7_later_1 : decode cX7_later 1 = .ok (.getfield 10, 3) := by decide +kernel
theorem dX7_later_4 : decode cX7_later 4 = .ok (.iload_n 1, 1) := by decide +kernel
theorem dX7_later_5 : decode cX7_later 5 = .ok (.invokevirtual 127, 3) := by decide +kernel
theorem dX7_later_8 : decode cX7_later 8 = .ok (.ifCond .eq 13, 3) := by decide +kernel
theorem dX7_later_11 : decode cX7_later 11 = .ok (.iload_n 2, 1) := by decide +kernel
theorem dX7_later_12 : decode cX7_later 12 = .ok (.sipush 200, 3) := by decide +kernel
theorem dX7_later_15 : decode cX7_later 15 = .ok (.invokestatic 73, 3) := by decide +kernel
theorem dX7_later_18 : decode cX7_later 18 = .ok (.ifCond .ne 10, 3) := by decide +kernel
theorem dX7_later_21 : decode cX7_later 21 = .ok (.aload_n 0, 1) := by decide +kernel
theorem dX7_later_22 : decode cX7_later 22 = .ok (.bipush (-2), 2) := by decide +kernel
theorem dX7_later_24 : decode cX7_later 24 = .ok (.invokevirtual 77, 3) := by decide +kernel
theorem dX7_later_27 : decode cX7_later 27 = .ok (.ireturn, 1) := by decide +kernel
theorem dX7_later_28 : decode cX7_later 28 = .ok (.aload_n 0, 1) := by decide +kernel
theorem dX7_later_29 : decode cX7_later 29 = .ok (.getfield 22, 3) := by decide +kernel
theorem dX7_later_32 : decode cX7_later 32 = .ok (.aload_n 0, 1) := by decide +kernel
theorem dX7_later_33 : decode cX7_later 33 = .ok (.getfield 10, 3) := by decide +kernel
theorem dX7_later_36 : decode cX7_later 36 = .ok (.invokevirtual 189, 3) := by decide +kernel
theorem dX7_later_39 : decode cX7_later 39 = .ok (.astore_n 3, 1) := by decide +kernel
theorem dX7_later_40 : decode cX7_later 40 = .ok (.aload_n 3, 1) := by decide +kernel
theorem dX7_later_41 : decode cX7_later 41 = .ok (.iload_n 2, 1) := by decide +kernel
theorem dX7_later_42 : decode cX7_later 42 = .ok (.invokevirtual 225, 3) := by decide +kernel
theorem dX7_later_45 : decode cX7_later 45 = .ok (.aload_n 3, 1) := by decide +kernel
theorem dX7_later_46 : decode cX7_later 46 = .ok (.aload_n 3, 1) := by decide +kernel
theorem dX7_later_47 : decode cX7_later 47 = .ok (.getfield 140, 3) := by decide +kernel
theorem dX7_later_50 : decode cX7_later 50 = .ok (.iload_n 1, 1) := by decide +kernel
theorem dX7_later_51 : decode cX7_later 51 = .ok (.iaload, 1) := by decide +kernel
theorem dX7_later_52 : decode cX7_later 52 = .ok (.iload_n 1, 1) := by decide +kernel
theorem dX7_later_53 : decode cX7_later 53 = .ok (.invokevirtual 149, 3) := by decide +kernel
theorem dX7_later_56 : decode cX7_later 56 = .ok (.ireturn, 1) := by decide +kernel
theorem dX7_feeds_0 : decode cX7_feeds 0 = .ok (.iload_n 1, 1) := by decide +kernel
theorem dX7_feeds_1 : decode cX7_feeds 1 = .ok (.bipush 60, 2) := by decide +kernel
theorem dX7_feeds_3 : decode cX7_feeds 3 = .ok (.invokestatic 73, 3) := by decide +kernel
theorem dX7_feeds_6 : decode cX7_feeds 6 = .ok (.ifCond .eq 11, 3) := by decide +kernel
theorem dX7_feeds_9 : decode cX7_feeds 9 = .ok (.iload_n 2, 1) := by decide +kernel
theorem dX7_feeds_10 : decode cX7_feeds 10 = .ok (.iconst 2, 1) := by decide +kernel
theorem dX7_feeds_11 : decode cX7_feeds 11 = .ok (.invokestatic 73, 3) := by decide +kernel
theorem dX7_feeds_14 : decode cX7_feeds 14 = .ok (.ifCond .ne 10, 3) := by decide +kernel
theorem dX7_feeds_17 : decode cX7_feeds 17 = .ok (.aload_n 0, 1) := by decide +kernel
theorem dX7_feeds_18 : decode cX7_feeds 18 = .ok (.bipush (-2), 2) := by decide +kernel
theorem dX7_feeds_20 : decode cX7_feeds 20 = .ok (.invokevirtual 77, 3) := by decide +kernel
theorem dX7_feeds_23 : decode cX7_feeds 23 = .ok (.ireturn, 1) := by decide +kernel
theorem dX7_feeds_24 : decode cX7_feeds 24 = .ok (.aload_n 0, 1) := by decide +kernel
theorem dX7_feeds_25 : decode cX7_feeds 25 = .ok (.getfield 10, 3) := by decide +kernel
theorem dX7_feeds_28 : decode cX7_feeds 28 = .ok (.getfield 213, 3) := by decide +kernel
theorem dX7_feeds_31 : decode cX7_feeds 31 = .ok (.ifCond .ne 10, 3) := by decide +kernel
theorem dX7_feeds_34 : decode cX7_feeds 34 = .ok (.aload_n 0, 1) := by decide +kernel
theorem dX7_feeds_35 : decode cX7_feeds 35 = .ok (.bipush (-5), 2) := by decide +kernel
theorem dX7_feeds_37 : decode cX7_feeds 37 = .ok (.invokevirtual 77, 3) := by decide +kernel
theorem dX7_feeds_40 : decode cX7_feeds 40 = .ok (.ireturn, 1) := by decide +kernel
theorem dX7_feeds_41 : decode cX7_feeds 41 = .ok (.aload_n 0, 1) := by decide +kernel
theorem dX7_feeds_42 : decode cX7_feeds 42 = .ok (.getfield 22, 3) := by decide +kernel
theorem dX7_feeds_45 : decode cX7_feeds 45 = .ok (.aload_n 0, 1) := by decide +kernel
theorem dX7_feeds_46 : decode cX7_feeds 46 = .ok (.getfield 10, 3) := by decide +kernel
theorem dX7_feeds_49 : decode cX7_feeds 49 = .ok (.iload_n 1, 1) := by decide +kernel
theorem dX7_feeds_50 : decode cX7_feeds 50 = .ok (.invokevirtual 231, 3) := by decide +kernel
theorem dX7_feeds_53 : decode cX7_feeds 53 = .ok (.istore_n 3, 1) := by decide +kernel
theorem dX7_feeds_54 : decode cX7_feeds 54 = .ok (.iload_n 2, 1) := by decide +kernel
theorem dX7_feeds_55 : decode cX7_feeds 55 = .ok (.iconst 1, 1) := by decide +kernel
theorem dX7_feeds_56 : decode cX7_feeds 56 = .ok (.if_icmp .ne 11, 3) := by decide +kernel
theorem dX7_feeds_59 : decode cX7_feeds 59 = .ok (.aload_n 0, 1) := by decide +kernel
theorem dX7_feeds_60 : decode cX7_feeds 60 = .ok (.getfield 22, 3) := by decide +kernel
theorem dX7_feeds_63 : decode cX7_feeds 63 = .ok (.getfield 235, 3) := by decide +kernel
theorem dX7_feeds_66 : decode cX7_feeds 66 = .ok (.ireturn, 1) := by decide +kernel
theorem dX7_feeds_67 : decode cX7_feeds 67 = .ok (.iload_n 2, 1) := by decide +kernel
theorem dX7_feeds_68 : decode cX7_feeds 68 = .ok (.ifCond .eq 8, 3) := by decide +kernel
theorem dX7_feeds_71 : decode cX7_feeds 71 = .ok (.iload_n 3, 1) := by decide +kernel
theorem dX7_feeds_72 : decode cX7_feeds 72 = .ok (.iconst (-1), 1) := by decide +kernel
theorem dX7_feeds_73 : decode cX7_feeds 73 = .ok (.if_icmp .ne 7, 3) := by decide +kernel
theorem dX7_feeds_76 : decode cX7_feeds 76 = .ok (.iload_n 3, 1) := by decide +kernel
theorem dX7_feeds_77 : decode cX7_feeds 77 = .ok (.goto 12, 3) := by decide +kernel
theorem dX7_feeds_80 : decode cX7_feeds 80 = .ok (.iload_n 3, 1) := by decide +kernel
theorem dX7_feeds_81 : decode cX7_feeds 81 = .ok (.aload_n 0, 1) := by decide +kernel
theorem dX7_feeds_82 : decode cX7_feeds 82 = .ok (.getfield 10, 3) := by decide +kernel
theorem dX7_feeds_85 : decode cX7_feeds 85 = .ok (.getfield 238, 3) := by decide +kernel
theorem dX7_feeds_88 : decode cX7_feeds 88 = .ok (.imul, 1) := by decide +kernel
theorem dX7_feeds_89 : decode cX7_feeds 89 = .ok (.ireturn, 1) := by decide +kernel
theorem dX7_warm_0 : decode cX7_warm 0 = .ok (.iload_n 1, 1) := by decide +kernel
theorem dX7_warm_1 : decode cX7_warm 1 = .ok (.bipush 60, 2) := by decide +kernel
theorem dX7_warm_3 : decode cX7_warm 3 = .ok (.invokestatic 73, 3) := by decide +kernel
theorem dX7_warm_6 : decode cX7_warm 6 = .ok (.ifCond .eq 18, 3) := by decide +kernel
theorem dX7_warm_9 : decode cX7_warm 9 = .ok (.aload_n 0, 1) := by decide +kernel
theorem dX7_warm_10 : decode cX7_warm 10 = .ok (.getfield 22, 3) := by decide +kernel
theorem dX7_warm_13 : decode cX7_warm 13 = .ok (.aload_n 0, 1) := by decide +kernel
theorem dX7_warm_14 : decode cX7_warm 14 = .ok (.getfield 10, 3) := by decide +kernel
theorem dX7_warm_17 : decode cX7_warm 17 = .ok (.iload_n 1, 1) := by decide +kernel
theorem dX7_warm_18 : decode cX7_warm 18 = .ok (.invokevirtual 241, 3) := by decide +kernel
theorem dX7_warm_21 : decode cX7_warm 21 = .ok (.goto 9, 3) := by decide +kernel
theorem dX7_warm_24 : decode cX7_warm 24 = .ok (.aload_n 0, 1) := by decide +kernel
theorem dX7_warm_25 : decode cX7_warm 25 = .ok (.bipush (-2), 2) := by decide +kernel
theorem dX7_warm_27 : decode cX7_warm 27 = .ok (.invokevirtual 77, 3) := by decide +kernel
theorem dX7_warm_30 : decode cX7_warm 30 = .ok (.ireturn, 1) := by decide +kernel
theorem dX7_out_0 : decode cX7_out 0 = .ok (.iload_n 1, 1) := by decide +kernel
theorem dX7_out_1 : decode cX7_out 1 = .ok (.iconst 1, 1) := by decide +kernel
theorem dX7_out_2 : decode cX7_out 2 = .ok (.invokestatic 73, 3) := by decide +kernel
theorem dX7_out_5 : decode cX7_out 5 = .ok (.ifCond .ne 10, 3) := by decide +kernel
theorem dX7_out_8 : decode cX7_out 8 = .ok (.aload_n 0, 1) := by decide +kernel
theorem dX7_out_9 : decode cX7_out 9 = .ok (.bipush (-2), 2) := by decide +kernel
theorem dX7_out_11 : decode cX7_out 11 = .ok (.invokevirtual 77, 3) := by decide +kernel
theorem dX7_out_14 : decode cX7_out 14 = .ok (.ireturn, 1) := by decide +kernel
theorem dX7_out_15 : decode cX7_out 15 = .ok (.aload_n 0, 1) := by decide +kernel
theorem dX7_out_16 : decode cX7_out 16 = .ok (.getfield 10, 3) := by decide +kernel
theorem dX7_out_19 : decode cX7_out 19 = .ok (.getfield 213, 3) := by decide +kernel
theorem dX7_out_22 : decode cX7_out 22 = .ok (.ifCond .ne 12, 3) := by decide +kernel
theorem dX7_out_25 : decode cX7_out 25 = .ok (.aload_n 0, 1) := by decide +kernel
theorem dX7_out_26 : decode cX7_out 26 = .ok (.bipush (-5), 2) := by decide +kernel
theorem dX7_out_28 : decode cX7_out 28 = .ok (.invokevirtual 77, 3) := by decide +kernel
theorem dX7_out_31 : decode cX7_out 31 = .ok (.goto 23, 3) := by decide +kernel
theorem dX7_out_34 : decode cX7_out 34 = .ok (.aload_n 0, 1) := by decide +kernel
theorem dX7_out_35 : decode cX7_out 35 = .ok (.getfield 22, 3) := by decide +kernel
theorem dX7_out_38 : decode cX7_out 38 = .ok (.aload_n 0, 1) := by decide +kernel
theorem dX7_out_39 : decode cX7_out 39 = .ok (.getfield 10, 3) := by decide +kernel
theorem dX7_out_42 : decode cX7_out 42 = .ok (.iload_n 1, 1) := by decide +kernel
theorem dX7_out_43 : decode cX7_out 43 = .ok (.ifCond .ne 7, 3) := by decide +kernel
theorem dX7_out_46 : decode cX7_out 46 = .ok (.iconst 1, 1) := by decide +kernel
theorem dX7_out_47 : decode cX7_out 47 = .ok (.goto 4, 3) := by decide +kernel
theorem dX7_out_50 : decode cX7_out 50 = .ok (.iconst 0, 1) := by decide +kernel
theorem dX7_out_51 : decode cX7_out 51 = .ok (.invokevirtual 244, 3) := by decide +kernel
theorem dX7_out_54 : decode cX7_out 54 = .ok (.ireturn, 1) := by decide +kernel
theorem dX7_prides_0 : decode cX7_prides 0 = .ok (.aload_n 0, 1) := by decide +kernel
theorem dX7_prides_1 : decode cX7_prides 1 = .ok (.getfield 10, 3) := by decide +kernel
theorem dX7_prides_4 : decode cX7_prides 4 = .ok (.iload_n 3, 1) := by decide +kernel
theorem dX7_prides_5 : decode cX7_prides 5 = .ok (.invokevirtual 127, 3) := by decide +kernel
theorem dX7_prides_8 : decode cX7_prides 8 = .ok (.ifCond .eq 12, 3) := by decide +kernel
theorem dX7_prides_11 : decode cX7_prides 11 = .ok (.aload_n 0, 1) := by decide +kernel
theorem dX7_prides_12 : decode cX7_prides 12 = .ok (.iload_n 1, 1) := by decide +kernel
theorem dX7_prides_13 : decode cX7_prides 13 = .ok (.iload_n 2, 1) := by decide +kernel
theorem dX7_prides_14 : decode cX7_prides 14 = .ok (.invokevirtual 248, 3) := by decide +kernel
theorem dX7_prides_17 : decode cX7_prides 17 = .ok (.goto 5, 3) := by decide +kernel
theorem dX7_prides_20 : decode cX7_prides 20 = .ok (.bipush (-2), 2) := by decide +kernel
theorem dX7_prides_22 : decode cX7_prides 22 = .ok (.istore 4, 2) := by decide +kernel
theorem dX7_prides_24 : decode cX7_prides 24 = .ok (.iload 4, 2) := by decide +kernel
theorem dX7_prides_26 : decode cX7_prides 26 = .ok (.ifCond .eq 10, 3) := by decide +kernel
theorem dX7_prides_29 : decode cX7_prides 29 = .ok (.aload_n 0, 1) := by decide +kernel
theorem dX7_prides_30 : decode cX7_prides 30 = .ok (.iload 4, 2) := by decide +kernel
theorem dX7_prides_32 : decode cX7_prides 32 = .ok (.invokevirtual 77, 3) := by decide +kernel
theorem dX7_prides_35 : decode cX7_prides 35 = .ok (.ireturn, 1) := by decide +kernel
theorem dX7_prides_36 : decode cX7_prides 36 = .ok (.aload_n 0, 1) := by decide +kernel
theorem dX7_prides_37 : decode cX7_prides 37 = .ok (.getfield 56, 3) := by decide +kernel
theorem dX7_prides_40 : decode cX7_prides 40 = .ok (.iload_n 1, 1) := by decide +kernel
theorem dX7_prides_41 : decode cX7_prides 41 = .ok (.aaload, 1) := by decide +kernel
theorem dX7_prides_42 : decode cX7_prides 42 = .ok (.iload_n 2, 1) := by decide +kernel
theorem dX7_prides_43 : decode cX7_prides 43 = .ok (.invokestatic 251, 3) := by decide +kernel
theorem dX7_prides_46 : decode cX7_prides 46 = .ok (.ifCond .eq 16, 3) := by decide +kernel
theorem dX7_prides_49 : decode cX7_prides 49 = .ok (.aload_n 0, 1) := by decide +kernel
theorem dX7_prides_50 : decode cX7_prides 50 = .ok (.getfield 56, 3) := by decide +kernel
theorem dX7_prides_53 : decode cX7_prides 53 = .ok (.iload_n 1, 1) := by decide +kernel
theorem dX7_prides_54 : decode cX7_prides 54 = .ok (.aaload, 1) := by decide +kernel
theorem dX7_prides_55 : decode cX7_prides 55 = .ok (.iload_n 2, 1) := by decide +kernel
theorem dX7_prides_56 : decode cX7_prides 56 = .ok (.invokestatic 255, 3) := by decide +kernel
theorem dX7_prides_59 : decode cX7_prides 59 = .ok (.ifCond .ne 10, 3) := by decide +kernel
theorem dX7_prides_62 : decode cX7_prides 62 = .ok (.aload_n 0, 1) := by decide +kernel
theorem dX7_prides_63 : decode cX7_prides 63 = .ok (.bipush (-5), 2) := by decide +kernel
theorem dX7_prides_65 : decode cX7_prides 65 = .ok (.invokevirtual 77, 3) := by decide +kernel
theorem dX7_prides_68 : decode cX7_prides 68 = .ok (.ireturn, 1) := by decide +kernel
theorem dX7_prides_69 : decode cX7_prides 69 = .ok (.aload_n 0, 1) := by decide +kernel
theorem dX7_prides_70 : decode cX7_prides 70 = .ok (.getfield 22, 3) := by decide +kernel
theorem dX7_prides_73 : decode cX7_prides 73 = .ok (.aload_n 0, 1) := by decide +kernel
theorem dX7_prides_74 : decode cX7_prides 74 = .ok (.getfield 10, 3) := by decide +kernel
theorem dX7_prides_77 : decode cX7_prides 77 = .ok (.aload_n 0, 1) := by decide +kernel
theorem dX7_prides_78 : decode cX7_prides 78 = .ok (.getfield 56, 3) := by decide +kernel
theorem dX7_prides_81 : decode cX7_prides 81 = .ok (.iload_n 1, 1) := by decide +kernel
theorem dX7_prides_82 : decode cX7_prides 82 = .ok (.aaload, 1) := by decide +kernel
theorem dX7_prides_83 : decode cX7_prides 83 = .ok (.iload_n 2, 1) := by decide +kernel
theorem dX7_prides_84 : decode cX7_prides 84 = .ok (.iload_n 3, 1) := by decide +kernel
theorem dX7_prides_85 : decode cX7_prides 85 = .ok (.invokevirtual 258, 3) := by decide +kernel
theorem dX7_prides_88 : decode cX7_prides 88 = .ok (.ireturn, 1) := by decide +kernel
theorem dX7_kinds_0 : decode cX7_kinds 0 = .ok (.aload_n 0, 1) := by decide +kernel
theorem dX7_kinds_1 : decode cX7_kinds 1 = .ok (.getfield 10, 3) := by decide +kernel
theorem dX7_kinds_4 : decode cX7_kinds 4 = .ok (.iload_n 3, 1) := by decide +kernel
theorem dX7_kinds_5 : decode cX7_kinds 5 = .ok (.invokevirtual 127, 3) := by decide +kernel
theorem dX7_kinds_8 : decode cX7_kinds 8 = .ok (.ifCond .eq 12, 3) := by decide +kernel
theorem dX7_kinds_11 : decode cX7_kinds 11 = .ok (.aload_n 0, 1) := by decide +kernel
theorem dX7_kinds_12 : decode cX7_kinds 12 = .ok (.iload_n 1, 1) := by decide +kernel
theorem dX7_kinds_13 : decode cX7_kinds 13 = .ok (.iload_n 2, 1) := by decide +kernel
theorem dX7_kinds_14 : decode cX7_kinds 14 = .ok (.invokevirtual 248, 3) := by decide +kernel
theorem dX7_kinds_17 : decode cX7_kinds 17 = .ok (.goto 5, 3) := by decide +kernel
theorem dX7_kinds_20 : decode cX7_kinds 20 = .ok (.bipush (-2), 2) := by decide +kernel
theorem dX7_kinds_22 : decode cX7_kinds 22 = .ok (.istore 4, 2) := by decide +kernel
theorem dX7_kinds_24 : decode cX7_kinds 24 = .ok (.iload 4, 2) := by decide +kernel
theorem dX7_kinds_26 : decode cX7_kinds 26 = .ok (.ifCond .eq 10, 3) := by decide +kernel
theorem dX7_kinds_29 : decode cX7_kinds 29 = .ok (.aload_n 0, 1) := by decide +kernel
theorem dX7_kinds_30 : decode cX7_kinds 30 = .ok (.iload 4, 2) := by decide +kernel
theorem dX7_kinds_32 : decode cX7_kinds 32 = .ok (.invokevirtual 77, 3) := by decide +kernel
theorem dX7_kinds_35 : decode cX7_kinds 35 = .ok (.ireturn, 1) := by decide +kernel
theorem dX7_kinds_36 : decode cX7_kinds 36 = .ok (.aload_n 0, 1) := by decide +kernel
theorem dX7_kinds_37 : decode cX7_kinds 37 = .ok (.getfield 56, 3) := by decide +kernel
theorem dX7_kinds_40 : decode cX7_kinds 40 = .ok (.iload_n 1, 1) := by decide +kernel
theorem dX7_kinds_41 : decode cX7_kinds 41 = .ok (.aaload, 1) := by decide +kernel
theorem dX7_kinds_42 : decode cX7_kinds 42 = .ok (.iload_n 2, 1) := by decide +kernel
theorem dX7_kinds_43 : decode cX7_kinds 43 = .ok (.invokestatic 251, 3) := by decide +kernel
theorem dX7_kinds_46 : decode cX7_kinds 46 = .ok (.ifCond .ne 10, 3) := by decide +kernel
theorem dX7_kinds_49 : decode cX7_kinds 49 = .ok (.aload_n 0, 1) := by decide +kernel
theorem dX7_kinds_50 : decode cX7_kinds 50 = .ok (.bipush (-5), 2) := by decide +kernel
theorem dX7_kinds_52 : decode cX7_kinds 52 = .ok (.invokevirtual 77, 3) := by decide +kernel
theorem dX7_kinds_55 : decode cX7_kinds 55 = .ok (.ireturn, 1) := by decide +kernel
theorem dX7_kinds_56 : decode cX7_kinds 56 = .ok (.aload_n 0, 1) := by decide +kernel
theorem dX7_kinds_57 : decode cX7_kinds 57 = .ok (.getfield 22, 3) := by decide +kernel
theorem dX7_kinds_60 : decode cX7_kinds 60 = .ok (.aload_n 0, 1) := by decide +kernel
theorem dX7_kinds_61 : decode cX7_kinds 61 = .ok (.getfield 10, 3) := by decide +kernel
theorem dX7_kinds_64 : decode cX7_kinds 64 = .ok (.aload_n 0, 1) := by decide +kernel
theorem dX7_kinds_65 : decode cX7_kinds 65 = .ok (.getfield 56, 3) := by decide +kernel
theorem dX7_kinds_68 : decode cX7_kinds 68 = .ok (.iload_n 1, 1) := by decide +kernel
theorem dX7_kinds_69 : decode cX7_kinds 69 = .ok (.aaload, 1) := by decide +kernel
theorem dX7_kinds_70 : decode cX7_kinds 70 = .ok (.iload_n 2, 1) := by decide +kernel
theorem dX7_kinds_71 : decode cX7_kinds 71 = .ok (.iload_n 3, 1) := by decide +kernel
theorem dX7_kinds_72 : decode cX7_kinds 72 = .ok (.invokevirtual 262, 3) := by decide +kernel
theorem dX7_kinds_75 : decode cX7_kinds 75 = .ok (.ireturn, 1) := by decide +kernel
theorem dX7_airs_0 : decode cX7_airs 0 = .ok (.aload_n 0, 1) := by decide +kernel
theorem dX7_airs_1 : decode cX7_airs 1 = .ok (.getfield 10, 3) := by decide +kernel
theorem dX7_airs_4 : decode cX7_airs 4 = .ok (.iload_n 1, 1) := by decide +kernel
theorem dX7_airs_5 : decode cX7_airs 5 = .ok (.invokevirtual 127, 3) := by decide +kernel
theorem dX7_airs_8 : decode cX7_airs 8 = .ok (.ifCond .eq 11, 3) := by decide +kernel
theorem dX7_airs_11 : decode cX7_airs 11 = .ok (.iload_n 2, 1) := by decide +kernel
theorem dX7_airs_12 : decode cX7_airs 12 = .ok (.iconst 1, 1) := by decide +kernel
theorem dX7_airs_13 : decode cX7_airs 13 = .ok (.invokestatic 73, 3) := by decide +kernel
theorem dX7_airs_16 : decode cX7_airs 16 = .ok (.ifCond .ne 10, 3) := by decide +kernel
theorem dX7_airs_19 : decode cX7_airs 19 = .ok (.aload_n 0, 1) := by decide +kernel
theorem dX7_airs_20 : decode cX7_airs 20 = .ok (.bipush (-2), 2) := by decide +kernel
theorem dX7_airs_22 : decode cX7_airs 22 = .ok (.invokevirtual 77, 3) := by decide +kernel
theorem dX7_airs_25 : decode cX7_airs 25 = .ok (.ireturn, 1) := by decide +kernel
theorem dX7_airs_26 : decode cX7_airs 26 = .ok (.iconst 0, 1) := by decide +kernel
theorem dX7_airs_27 : decode cX7_airs 27 = .ok (.istore_n 3, 1) := by decide +kernel
theorem dX7_airs_28 : decode cX7_airs 28 = .ok (.iconst (-1), 1) := by decide +kernel
theorem dX7_airs_29 : decode cX7_airs 29 = .ok (.istore 4, 2) := by decide +kernel
theorem dX7_airs_31 : decode cX7_airs 31 = .ok (.aload_n 0, 1) := by decide +kernel
theorem dX7_airs_32 : decode cX7_airs 32 = .ok (.getfield 22, 3) := by decide +kernel
theorem dX7_airs_35 : decode cX7_airs 35 = .ok (.aload_n 0, 1) := by decide +kernel
theorem dX7_airs_36 : decode cX7_airs 36 = .ok (.getfield 10, 3) := by decide +kernel
theorem dX7_airs_39 : decode cX7_airs 39 = .ok (.invokevirtual 189, 3) := by decide +kernel
theorem dX7_airs_42 : decode cX7_airs 42 = .ok (.astore 5, 2) := by decide +kernel
theorem dX7_airs_44 : decode cX7_airs 44 = .ok (.iconst 0, 1) := by decide +kernel
theorem dX7_airs_45 : decode cX7_airs 45 = .ok (.istore 6, 2) := by decide +kernel
theorem dX7_airs_47 : decode cX7_airs 47 = .ok (.iload 6, 2) := by decide +kernel
theorem dX7_airs_49 : decode cX7_airs 49 = .ok (.bipush 40, 2) := by decide +kernel
theorem dX7_airs_51 : decode cX7_airs 51 = .ok (.if_icmp .gt 32, 3) := by decide +kernel
theorem dX7_airs_54 : decode cX7_airs 54 = .ok (.aload 5, 2) := by decide +kernel
theorem dX7_airs_56 : decode cX7_airs 56 = .ok (.iload 6, 2) := by decide +kernel
theorem dX7_airs_58 : decode cX7_airs 58 = .ok (.putfield 228, 3) := by decide +kernel
theorem dX7_airs_61 : decode cX7_airs 61 = .ok (.aload 5, 2) := by decide +kernel
theorem dX7_airs_63 : decode cX7_airs 63 = .ok (.invokevirtual 210, 3) := by decide +kernel
theorem dX7_airs_66 : decode cX7_airs 66 = .ok (.iload_n 1, 1) := by decide +kernel
theorem dX7_airs_67 : decode cX7_airs 67 = .ok (.if_icmp .ne 10, 3) := by decide +kernel
theorem dX7_airs_70 : decode cX7_airs 70 = .ok (.iinc 3 1, 3) := by decide +kernel
theorem dX7_airs_73 : decode cX7_airs 73 = .ok (.iload 6, 2) := by decide +kernel
theorem dX7_airs_75 : decode cX7_airs 75 = .ok (.istore 4, 2) := by decide +kernel
theorem dX7_airs_77 : decode cX7_airs 77 = .ok (.iinc 6 1, 3) := by decide +kernel
theorem dX7_airs_80 : decode cX7_airs 80 = .ok (.goto (-33), 3) := by decide +kernel
theorem dX7_airs_83 : decode cX7_airs 83 = .ok (.iload_n 2, 1) := by decide +kernel
theorem dX7_airs_84 : decode cX7_airs 84 = .ok (.ifCond .ne 7, 3) := by decide +kernel
theorem dX7_airs_87 : decode cX7_airs 87 = .ok (.iload_n 3, 1) := by decide +kernel
theorem dX7_airs_88 : decode cX7_airs 88 = .ok (.goto 5, 3) := by decide +kernel
theorem dX7_airs_91 : decode cX7_airs 91 = .ok (.iload 4, 2) := by decide +kernel
theorem dX7_airs_93 : decode cX7_airs 93 = .ok (.ireturn, 1) := by decide +kernel
theorem dX7_clash_0 : decode cX7_clash 0 = .ok (.aload_n 0, 1) := by decide +kernel
theorem dX7_clash_1 : decode cX7_clash 1 = .ok (.iload_n 1, 1) := by decide +kernel
theorem dX7_clash_2 : decode cX7_clash 2 = .ok (.iload_n 2, 1) := by decide +kernel
theorem dX7_clash_3 : decode cX7_clash 3 = .ok (.invokevirtual 248, 3) := by decide +kernel
theorem dX7_clash_6 : decode cX7_clash 6 = .ok (.istore_n 3, 1) := by decide +kernel
theorem dX7_clash_7 : decode cX7_clash 7 = .ok (.iload_n 3, 1) := by decide +kernel
theorem dX7_clash_8 : decode cX7_clash 8 = .ok (.ifCond .eq 11, 3) := by decide +kernel
theorem dX7_clash_11 : decode cX7_clash 11 = .ok (.aload_n 0, 1) := by decide +kernel
theorem dX7_clash_12 : decode cX7_clash 12 = .ok (.iload_n 3, 1) := by decide +kernel
theorem dX7_clash_13 : decode cX7_clash 13 = .ok (.invokevirtual 77, 3) := by decide +kernel
theorem dX7_clash_16 : decode cX7_clash 16 = .ok (.goto 24, 3) := by decide +kernel
theorem dX7_clash_19 : decode cX7_clash 19 = .ok (.aload_n 0, 1) := by decide +kernel
theorem dX7_clash_20 : decode cX7_clash 20 = .ok (.getfield 43, 3) := by decide +kernel
theorem dX7_clash_23 : decode cX7_clash 23 = .ok (.aload_n 0, 1) := by decide +kernel
theorem dX7_clash_24 : decode cX7_clash 24 = .ok (.getfield 56, 3) := by decide +kernel
theorem dX7_clash_27 : decode cX7_clash 27 = .ok (.iload_n 1, 1) := by decide +kernel
theorem dX7_clash_28 : decode cX7_clash 28 = .ok (.aaload, 1) := by decide +kernel
theorem dX7_clash_29 : decode cX7_clash 29 = .ok (.iload_n 2, 1) := by decide +kernel
theorem dX7_clash_30 : decode cX7_clash 30 = .ok (.aload_n 0, 1) := by decide +kernel
theorem dX7_clash_31 : decode cX7_clash 31 = .ok (.getfield 10, 3) := by decide +kernel
theorem dX7_clash_34 : decode cX7_clash 34 = .ok (.getfield 213, 3) := by decide +kernel
theorem dX7_clash_37 : decode cX7_clash 37 = .ok (.invokevirtual 265, 3) := by decide +kernel
theorem dX7_clash_40 : decode cX7_clash 40 = .ok (.ireturn, 1) := by decide +kernel
theorem dX7_orders_0 : decode cX7_orders 0 = .ok (.aload_n 0, 1) := by decide +kernel
theorem dX7_orders_1 : decode cX7_orders 1 = .ok (.iload_n 1, 1) := by decide +kernel
theorem dX7_orders_2 : decode cX7_orders 2 = .ok (.iload_n 2, 1) := by decide +kernel
theorem dX7_orders_3 : decode cX7_orders 3 = .ok (.invokevirtual 269, 3) := by decide +kernel
theorem dX7_orders_6 : decode cX7_orders 6 = .ok (.istore_n 3, 1) := by decide +kernel
theorem dX7_orders_7 : decode cX7_orders 7 = .ok (.iload_n 3, 1) := by decide +kernel
theorem dX7_orders_8 : decode cX7_orders 8 = .ok (.ifCond .eq 11, 3) := by decide +kernel
theorem dX7_orders_11 : decode cX7_orders 11 = .ok (.aload_n 0, 1) := by decide +kernel
theorem dX7_orders_12 : decode cX7_orders 12 = .ok (.iload_n 3, 1) := by decide +kernel
theorem dX7_orders_13 : decode cX7_orders 13 = .ok (.invokevirtual 77, 3) := by decide +kernel
theorem dX7_orders_16 : decode cX7_orders 16 = .ok (.goto 12, 3) := by decide +kernel
theorem dX7_orders_19 : decode cX7_orders 19 = .ok (.aload_n 0, 1) := by decide +kernel
theorem dX7_orders_20 : decode cX7_orders 20 = .ok (.getfield 43, 3) := by decide +kernel
theorem dX7_orders_23 : decode cX7_orders 23 = .ok (.iconst (-1), 1) := by decide +kernel
theorem dX7_orders_24 : decode cX7_orders 24 = .ok (.iconst (-1), 1) := by decide +kernel
theorem dX7_orders_25 : decode cX7_orders 25 = .ok (.invokevirtual 272, 3) := by decide +kernel
theorem dX7_orders_28 : decode cX7_orders 28 = .ok (.ireturn, 1) := by decide +kernel
theorem dX7_next_0 : decode cX7_next 0 = .ok (.aload_n 0, 1) := by decide +kernel
theorem dX7_next_1 : decode cX7_next 1 = .ok (.iload_n 1, 1) := by decide +kernel
theorem dX7_next_2 : decode cX7_next 2 = .ok (.iload_n 2, 1) := by decide +kernel
theorem dX7_next_3 : decode cX7_next 3 = .ok (.invokevirtual 269, 3) := by decide +kernel
theorem dX7_next_6 : decode cX7_next 6 = .ok (.istore_n 3, 1) := by decide +kernel
theorem dX7_next_7 : decode cX7_next 7 = .ok (.iload_n 3, 1) := by decide +kernel
theorem dX7_next_8 : decode cX7_next 8 = .ok (.ifCond .eq 11, 3) := by decide +kernel
theorem dX7_next_11 : decode cX7_next 11 = .ok (.aload_n 0, 1) := by decide +kernel
theorem dX7_next_12 : decode cX7_next 12 = .ok (.iload_n 3, 1) := by decide +kernel
theorem dX7_next_13 : decode cX7_next 13 = .ok (.invokevirtual 77, 3) := by decide +kernel
theorem dX7_next_16 : decode cX7_next 16 = .ok (.goto 10, 3) := by decide +kernel
theorem dX7_next_19 : decode cX7_next 19 = .ok (.aload_n 0, 1) := by decide +kernel
theorem dX7_next_20 : decode cX7_next 20 = .ok (.getfield 43, 3) := by decide +kernel
theorem dX7_next_23 : decode cX7_next 23 = .ok (.invokevirtual 275, 3) := by decide +kernel
theorem dX7_next_26 : decode cX7_next 26 = .ok (.ireturn, 1) := by decide +kernel
theorem dX7_mayBe_0 : decode cX7_mayBe 0 = .ok (.aload_n 0, 1) := by decide +kernel
theorem dX7_mayBe_1 : decode cX7_mayBe 1 = .ok (.iload_n 1, 1) := by decide +kernel
theorem dX7_mayBe_2 : decode cX7_mayBe 2 = .ok (.iload_n 2, 1) := by decide +kernel
theorem dX7_mayBe_3 : decode cX7_mayBe 3 = .ok (.invokevirtual 269, 3) := by decide +kernel
theorem dX7_mayBe_6 : decode cX7_mayBe 6 = .ok (.istore_n 3, 1) := by decide +kernel
theorem dX7_mayBe_7 : decode cX7_mayBe 7 = .ok (.iload_n 3, 1) := by decide +kernel
theorem dX7_mayBe_8 : decode cX7_mayBe 8 = .ok (.ifCond .eq 11, 3) := by decide +kernel
theorem dX7_mayBe_11 : decode cX7_mayBe 11 = .ok (.aload_n 0, 1) := by decide +kernel
theorem dX7_mayBe_12 : decode cX7_mayBe 12 = .ok (.iload_n 3, 1) := by decide +kernel
theorem dX7_mayBe_13 : decode cX7_mayBe 13 = .ok (.invokevirtual 77, 3) := by decide +kernel
theorem dX7_mayBe_16 : decode cX7_mayBe 16 = .ok (.goto 10, 3) := by decide +kernel
theorem dX7_mayBe_19 : decode cX7_mayBe 19 = .ok (.aload_n 0, 1) := by decide +kernel
theorem dX7_mayBe_20 : decode cX7_mayBe 20 = .ok (.getfield 43, 3) := by decide +kernel
theorem dX7_mayBe_23 : decode cX7_mayBe 23 = .ok (.invokevirtual 278, 3) := by decide +kernel
theorem dX7_mayBe_26 : decode cX7_mayBe 26 = .ok (.ireturn, 1) := by decide +kernel
theorem dX7_wrongBowls_0 : decode cX7_wrongBowls 0 = .ok (.aload_n 0, 1) := by decide +kernel
theorem dX7_wrongBowls_1 : decode cX7_wrongBowls 1 = .ok (.iload_n 1, 1) := by decide +kernel
theorem dX7_wrongBowls_2 : decode cX7_wrongBowls 2 = .ok (.iload_n 2, 1) := by decide +kernel
theorem dX7_wrongBowls_3 : decode cX7_wrongBowls 3 = .ok (.invokevirtual 269, 3) := by decide +kernel
theorem dX7_wrongBowls_6 : decode cX7_wrongBowls 6 = .ok (.istore_n 3, 1) := by decide +kernel
theorem dX7_wrongBowls_7 : decode cX7_wrongBowls 7 = .ok (.iload_n 3, 1) := by decide +kernel
theorem dX7_wrongBowls_8 : decode cX7_wrongBowls 8 = .ok (.ifCond .eq 9, 3) := by decide +kernel
theorem dX7_wrongBowls_11 : decode cX7_wrongBowls 11 = .ok (.aload_n 0, 1) := by decide +kernel
theorem dX7_wrongBowls_12 : decode cX7_wrongBowls 12 = .ok (.iload_n 3, 1) := by decide +kernel
theorem dX7_wrongBowls_13 : decode cX7_wrongBowls 13 = .ok (.invokevirtual 77, 3) := by decide +kernel
theorem dX7_wrongBowls_16 : decode cX7_wrongBowls 16 = .ok (.ireturn, 1) := by decide +kernel
theorem dX7_wrongBowls_17 : decode cX7_wrongBowls 17 = .ok (.iconst 0, 1) := by decide +kernel
theorem dX7_wrongBowls_18 : decode cX7_wrongBowls 18 = .ok (.istore 4, 2) := by decide +kernel
theorem dX7_wrongBowls_20 : decode cX7_wrongBowls 20 = .ok (.iconst 0, 1) := by decide +kernel
theorem dX7_wrongBowls_21 : decode cX7_wrongBowls 21 = .ok (.istore 5, 2) := by decide +kernel
theorem dX7_wrongBowls_23 : decode cX7_wrongBowls 23 = .ok (.iload 5, 2) := by decide +kernel
theorem dX7_wrongBowls_25 : decode cX7_wrongBowls 25 = .ok (.iload_n 2, 1) := by decide +kernel
theorem dX7_wrongBowls_26 : decode cX7_wrongBowls 26 = .ok (.if_icmp .ge 60, 3) := by decide +kernel
theorem dX7_wrongBowls_29 : decode cX7_wrongBowls 29 = .ok (.aload_n 0, 1) := by decide +kernel
theorem dX7_wrongBowls_30 : decode cX7_wrongBowls 30 = .ok (.getfield 56, 3) := by decide +kernel
theorem dX7_wrongBowls_33 : decode cX7_wrongBowls 33 = .ok (.iload_n 1, 1) := by decide +kernel
theorem dX7_wrongBowls_34 : decode cX7_wrongBowls 34 = .ok (.aaload, 1) := by decide +kernel
theorem dX7_wrongBowls_35 : decode cX7_wrongBowls 35 = .ok (.iconst 2, 1) := by decide +kernel
theorem dX7_wrongBowls_36 : decode cX7_wrongBowls 36 = .ok (.iload 5, 2) := by decide +kernel
theorem dX7_wrongBowls_38 : decode cX7_wrongBowls 38 = .ok (.imul, 1) := by decide +kernel
theorem dX7_wrongBowls_39 : decode cX7_wrongBowls 39 = .ok (.invokevirtual 120, 3) := by decide +kernel
theorem dX7_wrongBowls_42 : decode cX7_wrongBowls 42 = .ok (.l2i, 1) := by decide +kernel
theorem dX7_wrongBowls_43 : decode cX7_wrongBowls 43 = .ok (.istore 6, 2) := by decide +kernel
theorem dX7_wrongBowls_45 : decode cX7_wrongBowls 45 = .ok (.aload_n 0, 1) := by decide +kernel
theorem dX7_wrongBowls_46 : decode cX7_wrongBowls 46 = .ok (.getfield 56, 3) := by decide +kernel
theorem dX7_wrongBowls_49 : decode cX7_wrongBowls 49 = .ok (.iload_n 1, 1) := by decide +kernel
theorem dX7_wrongBowls_50 : decode cX7_wrongBowls 50 = .ok (.aaload, 1) := by decide +kernel
theorem dX7_wrongBowls_51 : decode cX7_wrongBowls 51 = .ok (.iconst 2, 1) := by decide +kernel
theorem dX7_wrongBowls_52 : decode cX7_wrongBowls 52 = .ok (.iload 5, 2) := by decide +kernel
theorem dX7_wrongBowls_54 : decode cX7_wrongBowls 54 = .ok (.imul, 1) := by decide +kernel
theorem dX7_wrongBowls_55 : decode cX7_wrongBowls 55 = .ok (.iconst 1, 1) := by decide +kernel
theorem dX7_wrongBowls_56 : decode cX7_wrongBowls 56 = .ok (.iadd, 1) := by decide +kernel
theorem dX7_wrongBowls_57 : decode cX7_wrongBowls 57 = .ok (.invokevirtual 120, 3) := by decide +kernel
theorem dX7_wrongBowls_60 : decode cX7_wrongBowls 60 = .ok (.l2i, 1) := by decide +kernel
theorem dX7_wrongBowls_61 : decode cX7_wrongBowls 61 = .ok (.istore 7, 2) := by decide +kernel
theorem dX7_wrongBowls_63 : decode cX7_wrongBowls 63 = .ok (.aload_n 0, 1) := by decide +kernel
theorem dX7_wrongBowls_64 : decode cX7_wrongBowls 64 = .ok (.getfield 10, 3) := by decide +kernel
theorem dX7_wrongBowls_67 : decode cX7_wrongBowls 67 = .ok (.iload 6, 2) := by decide +kernel
theorem dX7_wrongBowls_69 : decode cX7_wrongBowls 69 = .ok (.iload 7, 2) := by decide +kernel
theorem dX7_wrongBowls_71 : decode cX7_wrongBowls 71 = .ok (.invokevirtual 281, 3) := by decide +kernel
theorem dX7_wrongBowls_74 : decode cX7_wrongBowls 74 = .ok (.ifCond .ne 6, 3) := by decide +kernel
theorem dX7_wrongBowls_77 : decode cX7_wrongBowls 77 = .ok (.iinc 4 1, 3) := by decide +kernel
theorem dX7_wrongBowls_80 : decode cX7_wrongBowls 80 = .ok (.iinc 5 1, 3) := by decide +kernel
theorem dX7_wrongBowls_83 : decode cX7_wrongBowls 83 = .ok (.goto (-60), 3) := by decide +kernel
theorem dX7_wrongBowls_86 : decode cX7_wrongBowls 86 = .ok (.iload 4, 2) := by decide +kernel
theorem dX7_wrongBowls_88 : decode cX7_wrongBowls 88 = .ok (.ireturn, 1) := by decide +kernel
theorem dX7_byTurns_0 : decode cX7_byTurns 0 = .ok (.iload_n 1, 1) := by decide +kernel
theorem dX7_byTurns_1 : decode cX7_byTurns 1 = .ok (.iconst 4, 1) := by decide +kernel
theorem dX7_byTurns_2 : decode cX7_byTurns 2 = .ok (.invokestatic 73, 3) := by decide +kernel
theorem dX7_byTurns_5 : decode cX7_byTurns 5 = .ok (.ifCond .eq 21, 3) := by decide +kernel
theorem dX7_byTurns_8 : decode cX7_byTurns 8 = .ok (.aload_n 0, 1) := by decide +kernel
theorem dX7_byTurns_9 : decode cX7_byTurns 9 = .ok (.getfield 36, 3) := by decide +kernel
theorem dX7_byTurns_12 : decode cX7_byTurns 12 = .ok (.aload_n 0, 1) := by decide +kernel
theorem dX7_byTurns_13 : decode cX7_byTurns 13 = .ok (.getfield 10, 3) := by decide +kernel
theorem dX7_byTurns_16 : decode cX7_byTurns 16 = .ok (.iload_n 1, 1) := by decide +kernel
theorem dX7_byTurns_17 : decode cX7_byTurns 17 = .ok (.invokevirtual 284, 3) := by decide +kernel
theorem dX7_byTurns_20 : decode cX7_byTurns 20 = .ok (.invokestatic 177, 3) := by decide +kernel
theorem dX7_byTurns_23 : decode cX7_byTurns 23 = .ok (.goto 9, 3) := by decide +kernel
theorem dX7_byTurns_26 : decode cX7_byTurns 26 = .ok (.aload_n 0, 1) := by decide +kernel
theorem dX7_byTurns_27 : decode cX7_byTurns 27 = .ok (.bipush (-2), 2) := by decide +kernel
theorem dX7_byTurns_29 : decode cX7_byTurns 29 = .ok (.invokevirtual 77, 3) := by decide +kernel
theorem dX7_byTurns_32 : decode cX7_byTurns 32 = .ok (.ireturn, 1) := by decide +kernel
theorem dX7_odds_0 : decode cX7_odds 0 = .ok (.iload_n 1, 1) := by decide +kernel
theorem dX7_odds_1 : decode cX7_odds 1 = .ok (.iconst 5, 1) := by decide +kernel
theorem dX7_odds_2 : decode cX7_odds 2 = .ok (.invokestatic 73, 3) := by decide +kernel
theorem dX7_odds_5 : decode cX7_odds 5 = .ok (.ifCond .eq 11, 3) := by decide +kernel
theorem dX7_odds_8 : decode cX7_odds 8 = .ok (.iload_n 2, 1) := by decide +kernel
theorem dX7_odds_9 : decode cX7_odds 9 = .ok (.iconst 1, 1) := by decide +kernel
theorem dX7_odds_10 : decode cX7_odds 10 = .ok (.invokestatic 73, 3) := by decide +kernel
theorem dX7_odds_13 : decode cX7_odds 13 = .ok (.ifCond .ne 10, 3) := by decide +kernel
theorem dX7_odds_16 : decode cX7_odds 16 = .ok (.aload_n 0, 1) := by decide +kernel
theorem dX7_odds_17 : decode cX7_odds 17 = .ok (.bipush (-2), 2) := by decide +kernel
theorem dX7_odds_19 : decode cX7_odds 19 = .ok (.invokevirtual 77, 3) := by decide +kernel
theorem dX7_odds_22 : decode cX7_odds 22 = .ok (.ireturn, 1) := by decide +kernel
theorem dX7_odds_23 : decode cX7_odds 23 = .ok (.aload_n 0, 1) := by decide +kernel
theorem dX7_odds_24 : decode cX7_odds 24 = .ok (.getfield 29, 3) := by decide +kernel
theorem dX7_odds_27 : decode cX7_odds 27 = .ok (.aload_n 0, 1) := by decide +kernel
theorem dX7_odds_28 : decode cX7_odds 28 = .ok (.getfield 10, 3) := by decide +kernel
theorem dX7_odds_31 : decode cX7_odds 31 = .ok (.iload_n 1, 1) := by decide +kernel
theorem dX7_odds_32 : decode cX7_odds 32 = .ok (.invokevirtual 288, 3) := by decide +kernel
theorem dX7_odds_35 : decode cX7_odds 35 = .ok (.iload_n 2, 1) := by decide +kernel
theorem dX7_odds_36 : decode cX7_odds 36 = .ok (.ifCond .ne 13, 3) := by decide +kernel
theorem dX7_odds_39 : decode cX7_odds 39 = .ok (.aload_n 0, 1) := by decide +kernel
theorem dX7_odds_40 : decode cX7_odds 40 = .ok (.getfield 29, 3) := by decide +kernel
theorem dX7_odds_43 : decode cX7_odds 43 = .ok (.invokevirtual 292, 3) := by decide +kernel
theorem dX7_odds_46 : decode cX7_odds 46 = .ok (.goto 10, 3) := by decide +kernel
theorem dX7_odds_49 : decode cX7_odds 49 = .ok (.aload_n 0, 1) := by decide +kernel
theorem dX7_odds_50 : decode cX7_odds 50 = .ok (.getfield 29, 3) := by decide +kernel
theorem dX7_odds_53 : decode cX7_odds 53 = .ok (.invokevirtual 295, 3) := by decide +kernel
theorem dX7_odds_56 : decode cX7_odds 56 = .ok (.ireturn, 1) := by decide +kernel
theorem dX7_warmest_0 : decode cX7_warmest 0 = .ok (.aload_n 0, 1) := by decide +kernel
theorem dX7_warmest_1 : decode cX7_warmest 1 = .ok (.getfield 22, 3) := by decide +kernel
theorem dX7_warmest_4 : decode cX7_warmest 4 = .ok (.aload_n 0, 1) := by decide +kernel
theorem dX7_warmest_5 : decode cX7_warmest 5 = .ok (.getfield 10, 3) := by decide +kernel
theorem dX7_warmest_8 : decode cX7_warmest 8 = .ok (.invokevirtual 189, 3) := by decide +kernel
theorem dX7_warmest_11 : decode cX7_warmest 11 = .ok (.astore_n 1, 1) := by decide +kernel
theorem dX7_warmest_12 : decode cX7_warmest 12 = .ok (.bipush 40, 2) := by decide +kernel
theorem dX7_warmest_14 : decode cX7_warmest 14 = .ok (.istore_n 2, 1) := by decide +kernel
theorem dX7_warmest_15 : decode cX7_warmest 15 = .ok (.iload_n 2, 1) := by decide +kernel
theorem dX7_warmest_16 : decode cX7_warmest 16 = .ok (.ifCond .lt 23, 3) := by decide +kernel
theorem dX7_warmest_19 : decode cX7_warmest 19 = .ok (.aload_n 1, 1) := by decide +kernel
theorem dX7_warmest_20 : decode cX7_warmest 20 = .ok (.iload_n 2, 1) := by decide +kernel
theorem dX7_warmest_21 : decode cX7_warmest 21 = .ok (.putfield 228, 3) := by decide +kernel
theorem dX7_warmest_24 : decode cX7_warmest 24 = .ok (.aload_n 1, 1) := by decide +kernel
theorem dX7_warmest_25 : decode cX7_warmest 25 = .ok (.invokevirtual 216, 3) := by decide +kernel
theorem dX7_warmest_28 : decode cX7_warmest 28 = .ok (.ifCond .eq 5, 3) := by decide +kernel
theorem dX7_warmest_31 : decode cX7_warmest 31 = .ok (.iload_n 2, 1) := by decide +kernel
theorem dX7_warmest_32 : decode cX7_warmest 32 = .ok (.ireturn, 1) := by decide +kernel
theorem dX7_warmest_33 : decode cX7_warmest 33 = .ok (.iinc 2 (-1), 3) := by decide +kernel
theorem dX7_warmest_36 : decode cX7_warmest 36 = .ok (.goto (-21), 3) := by decide +kernel
theorem dX7_warmest_39 : decode cX7_warmest 39 = .ok (.iconst (-1), 1) := by decide +kernel
theorem dX7_warmest_40 : decode cX7_warmest 40 = .ok (.ireturn, 1) := by decide +kernel
theorem dX7_brandyFor_0 : decode cX7_brandyFor 0 = .ok (.aload_n 0, 1) := by decide +kernel
theorem dX7_brandyFor_1 : decode cX7_brandyFor 1 = .ok (.getfield 10, 3) := by decide +kernel
theorem dX7_brandyFor_4 : decode cX7_brandyFor 4 = .ok (.iload_n 1, 1) := by decide +kernel
theorem dX7_brandyFor_5 : decode cX7_brandyFor 5 = .ok (.invokevirtual 127, 3) := by decide +kernel
theorem dX7_brandyFor_8 : decode cX7_brandyFor 8 = .ok (.ifCond .ne 10, 3) := by decide +kernel
theorem dX7_brandyFor_11 : decode cX7_brandyFor 11 = .ok (.aload_n 0, 1) := by decide +kernel
theorem dX7_brandyFor_12 : decode cX7_brandyFor 12 = .ok (.bipush (-2), 2) := by decide +kernel
theorem dX7_brandyFor_14 : decode cX7_brandyFor 14 = .ok (.invokevirtual 77, 3) := by decide +kernel
theorem dX7_brandyFor_17 : decode cX7_brandyFor 17 = .ok (.ireturn, 1) := by decide +kernel
theorem dX7_brandyFor_18 : decode cX7_brandyFor 18 = .ok (.aload_n 0, 1) := by decide +kernel
theorem dX7_brandyFor_19 : decode cX7_brandyFor 19 = .ok (.getfield 22, 3) := by decide +kernel
theorem dX7_brandyFor_22 : decode cX7_brandyFor 22 = .ok (.aload_n 0, 1) := by decide +kernel
theorem dX7_brandyFor_23 : decode cX7_brandyFor 23 = .ok (.getfield 10, 3) := by decide +kernel
theorem dX7_brandyFor_26 : decode cX7_brandyFor 26 = .ok (.invokevirtual 189, 3) := by decide +kernel
theorem dX7_brandyFor_29 : decode cX7_brandyFor 29 = .ok (.astore_n 2, 1) := by decide +kernel
theorem dX7_brandyFor_30 : decode cX7_brandyFor 30 = .ok (.iconst 0, 1) := by decide +kernel
theorem dX7_brandyFor_31 : decode cX7_brandyFor 31 = .ok (.istore_n 3, 1) := by decide +kernel
theorem dX7_brandyFor_32 : decode cX7_brandyFor 32 = .ok (.iload_n 3, 1) := by decide +kernel
theorem dX7_brandyFor_33 : decode cX7_brandyFor 33 = .ok (.bipush 9, 2) := by decide +kernel
theorem dX7_brandyFor_35 : decode cX7_brandyFor 35 = .ok (.if_icmp .gt 25, 3) := by decide +kernel
theorem dX7_brandyFor_38 : decode cX7_brandyFor 38 = .ok (.aload_n 2, 1) := by decide +kernel
theorem dX7_brandyFor_39 : decode cX7_brandyFor 39 = .ok (.getfield 162, 3) := by decide +kernel
theorem dX7_brandyFor_42 : decode cX7_brandyFor 42 = .ok (.iload_n 1, 1) := by decide +kernel
theorem dX7_brandyFor_43 : decode cX7_brandyFor 43 = .ok (.iload_n 3, 1) := by decide +kernel
theorem dX7_brandyFor_44 : decode cX7_brandyFor 44 = .ok (.iastore, 1) := by decide +kernel
theorem dX7_brandyFor_45 : decode cX7_brandyFor 45 = .ok (.aload_n 2, 1) := by decide +kernel
theorem dX7_brandyFor_46 : decode cX7_brandyFor 46 = .ok (.invokevirtual 216, 3) := by decide +kernel
theorem dX7_brandyFor_49 : decode cX7_brandyFor 49 = .ok (.ifCond .ne 5, 3) := by decide +kernel
theorem dX7_brandyFor_52 : decode cX7_brandyFor 52 = .ok (.iload_n 3, 1) := by decide +kernel
theorem dX7_brandyFor_53 : decode cX7_brandyFor 53 = .ok (.ireturn, 1) := by decide +kernel
theorem dX7_brandyFor_54 : decode cX7_brandyFor 54 = .ok (.iinc 3 1, 3) := by decide +kernel
theorem dX7_brandyFor_57 : decode cX7_brandyFor 57 = .ok (.goto (-25), 3) := by decide +kernel
theorem dX7_brandyFor_60 : decode cX7_brandyFor 60 = .ok (.iconst (-1), 1) := by decide +kernel
theorem dX7_brandyFor_61 : decode cX7_brandyFor 61 = .ok (.ireturn, 1) := by decide +kernel
theorem dX7_fallFor_0 : decode cX7_fallFor 0 = .ok (.iload_n 1, 1) := by decide +kernel
theorem dX7_fallFor_1 : decode cX7_fallFor 1 = .ok (.bipush 60, 2) := by decide +kernel
theorem dX7_fallFor_3 : decode cX7_fallFor 3 = .ok (.invokestatic 73, 3) := by decide +kernel
theorem dX7_fallFor_6 : decode cX7_fallFor 6 = .ok (.ifCond .ne 10, 3) := by decide +kernel
theorem dX7_fallFor_9 : decode cX7_fallFor 9 = .ok (.aload_n 0, 1) := by decide +kernel
theorem dX7_fallFor_10 : decode cX7_fallFor 10 = .ok (.bipush (-2), 2) := by decide +kernel
theorem dX7_fallFor_12 : decode cX7_fallFor 12 = .ok (.invokevirtual 77, 3) := by decide +kernel
theorem dX7_fallFor_15 : decode cX7_fallFor 15 = .ok (.ireturn, 1) := by decide +kernel
theorem dX7_fallFor_16 : decode cX7_fallFor 16 = .ok (.iconst 0, 1) := by decide +kernel
theorem dX7_fallFor_17 : decode cX7_fallFor 17 = .ok (.istore_n 2, 1) := by decide +kernel
theorem dX7_fallFor_18 : decode cX7_fallFor 18 = .ok (.iload_n 2, 1) := by decide +kernel
theorem dX7_fallFor_19 : decode cX7_fallFor 19 = .ok (.iconst 5, 1) := by decide +kernel
theorem dX7_fallFor_20 : decode cX7_fallFor 20 = .ok (.if_icmp .gt 37, 3) := by decide +kernel
theorem dX7_fallFor_23 : decode cX7_fallFor 23 = .ok (.aload_n 0, 1) := by decide +kernel
theorem dX7_fallFor_24 : decode cX7_fallFor 24 = .ok (.getfield 22, 3) := by decide +kernel
theorem dX7_fallFor_27 : decode cX7_fallFor 27 = .ok (.aload_n 0, 1) := by decide +kernel
theorem dX7_fallFor_28 : decode cX7_fallFor 28 = .ok (.getfield 10, 3) := by decide +kernel
theorem dX7_fallFor_31 : decode cX7_fallFor 31 = .ok (.invokevirtual 189, 3) := by decide +kernel
theorem dX7_fallFor_34 : decode cX7_fallFor 34 = .ok (.astore_n 3, 1) := by decide +kernel
theorem dX7_fallFor_35 : decode cX7_fallFor 35 = .ok (.aload_n 3, 1) := by decide +kernel
theorem dX7_fallFor_36 : decode cX7_fallFor 36 = .ok (.iload_n 2, 1) := by decide +kernel
theorem dX7_fallFor_37 : decode cX7_fallFor 37 = .ok (.putfield 298, 3) := by decide +kernel
theorem dX7_fallFor_40 : decode cX7_fallFor 40 = .ok (.aload_n 3, 1) := by decide +kernel
theorem dX7_fallFor_41 : decode cX7_fallFor 41 = .ok (.iload_n 1, 1) := by decide +kernel
theorem dX7_fallFor_42 : decode cX7_fallFor 42 = .ok (.invokevirtual 222, 3) := by decide +kernel
theorem dX7_fallFor_45 : decode cX7_fallFor 45 = .ok (.iconst (-1), 1) := by decide +kernel
theorem dX7_fallFor_46 : decode cX7_fallFor 46 = .ok (.if_icmp .eq 5, 3) := by decide +kernel
theorem dX7_fallFor_49 : decode cX7_fallFor 49 = .ok (.iload_n 2, 1) := by decide +kernel
theorem dX7_fallFor_50 : decode cX7_fallFor 50 = .ok (.ireturn, 1) := by decide +kernel
theorem dX7_fallFor_51 : decode cX7_fallFor 51 = .ok (.iinc 2 1, 3) := by decide +kernel
theorem dX7_fallFor_54 : decode cX7_fallFor 54 = .ok (.goto (-36), 3) := by decide +kernel
theorem dX7_fallFor_57 : decode cX7_fallFor 57 = .ok (.iconst (-1), 1) := by decide +kernel
theorem dX7_fallFor_58 : decode cX7_fallFor 58 = .ok (.ireturn, 1) := by decide +kernel
theorem dX7_holdsOut_0 : decode cX7_holdsOut 0 = .ok (.aload_n 0, 1) := by decide +kernel
theorem dX7_holdsOut_1 : decode cX7_holdsOut 1 = .ok (.getfield 10, 3) := by decide +kernel
theorem dX7_holdsOut_4 : decode cX7_holdsOut 4 = .ok (.iload_n 1, 1) := by decide +kernel
theorem dX7_holdsOut_5 : decode cX7_holdsOut 5 = .ok (.invokevirtual 127, 3) := by decide +kernel
theorem dX7_holdsOut_8 : decode cX7_holdsOut 8 = .ok (.ifCond .eq 18, 3) := by decide +kernel
theorem dX7_holdsOut_11 : decode cX7_holdsOut 11 = .ok (.aload_n 0, 1) := by decide +kernel
theorem dX7_holdsOut_12 : decode cX7_holdsOut 12 = .ok (.getfield 22, 3) := by decide +kernel
theorem dX7_holdsOut_15 : decode cX7_holdsOut 15 = .ok (.aload_n 0, 1) := by decide +kernel
theorem dX7_holdsOut_16 : decode cX7_holdsOut 16 = .ok (.getfield 10, 3) := by decide +kernel
theorem dX7_holdsOut_19 : decode cX7_holdsOut 19 = .ok (.iload_n 1, 1) := by decide +kernel
theorem dX7_holdsOut_20 : decode cX7_holdsOut 20 = .ok (.invokevirtual 301, 3) := by decide +kernel
theorem dX7_holdsOut_23 : decode cX7_holdsOut 23 = .ok (.goto 9, 3) := by decide +kernel
theorem dX7_holdsOut_26 : decode cX7_holdsOut 26 = .ok (.aload_n 0, 1) := by decide +kernel
theorem dX7_holdsOut_27 : decode cX7_holdsOut 27 = .ok (.bipush (-2), 2) := by decide +kernel
theorem dX7_holdsOut_29 : decode cX7_holdsOut 29 = .ok (.invokevirtual 77, 3) := by decide +kernel
theorem dX7_holdsOut_32 : decode cX7_holdsOut 32 = .ok (.ireturn, 1) := by decide +kernel
theorem dX7_toughest_0 : decode cX7_toughest 0 = .ok (.iload_n 1, 1) := by decide +kernel
theorem dX7_toughest_1 : decode cX7_toughest 1 = .ok (.iconst 1, 1) := by decide +kernel
theorem dX7_toughest_2 : decode cX7_toughest 2 = .ok (.invokestatic 73, 3) := by decide +kernel
theorem dX7_toughest_5 : decode cX7_toughest 5 = .ok (.ifCond .ne 10, 3) := by decide +kernel
theorem dX7_toughest_8 : decode cX7_toughest 8 = .ok (.aload_n 0, 1) := by decide +kernel
theorem dX7_toughest_9 : decode cX7_toughest 9 = .ok (.bipush (-2), 2) := by decide +kernel
theorem dX7_toughest_11 : decode cX7_toughest 11 = .ok (.invokevirtual 77, 3) := by decide +kernel
theorem dX7_toughest_14 : decode cX7_toughest 14 = .ok (.ireturn, 1) := by decide +kernel
theorem dX7_toughest_15 : decode cX7_toughest 15 = .ok (.aload_n 0, 1) := by decide +kernel
theorem dX7_toughest_16 : decode cX7_toughest 16 = .ok (.getfield 10, 3) := by decide +kernel
theorem dX7_toughest_19 : decode cX7_toughest 19 = .ok (.getfield 213, 3) := by decide +kernel
theorem dX7_toughest_22 : decode cX7_toughest 22 = .ok (.ifCond .ne 12, 3) := by decide +kernel
theorem dX7_toughest_25 : decode cX7_toughest 25 = .ok (.aload_n 0, 1) := by decide +kernel
theorem dX7_toughest_26 : decode cX7_toughest 26 = .ok (.bipush (-5), 2) := by decide +kernel
theorem dX7_toughest_28 : decode cX7_toughest 28 = .ok (.invokevirtual 77, 3) := by decide +kernel
theorem dX7_toughest_31 : decode cX7_toughest 31 = .ok (.goto 23, 3) := by decide +kernel
theorem dX7_toughest_34 : decode cX7_toughest 34 = .ok (.aload_n 0, 1) := by decide +kernel
theorem dX7_toughest_35 : decode cX7_toughest 35 = .ok (.getfield 22, 3) := by decide +kernel
theorem dX7_toughest_38 : decode cX7_toughest 38 = .ok (.aload_n 0, 1) := by decide +kernel
theorem dX7_toughest_39 : decode cX7_toughest 39 = .ok (.getfield 10, 3) := by decide +kernel
theorem dX7_toughest_42 : decode cX7_toughest 42 = .ok (.iload_n 1, 1) := by decide +kernel
theorem dX7_toughest_43 : decode cX7_toughest 43 = .ok (.ifCond .ne 7, 3) := by decide +kernel
theorem dX7_toughest_46 : decode cX7_toughest 46 = .ok (.iconst 1, 1) := by decide +kernel
theorem dX7_toughest_47 : decode cX7_toughest 47 = .ok (.goto 4, 3) := by decide +kernel
theorem dX7_toughest_50 : decode cX7_toughest 50 = .ok (.iconst 0, 1) := by decide +kernel
theorem dX7_toughest_51 : decode cX7_toughest 51 = .ok (.invokevirtual 304, 3) := by decide +kernel
theorem dX7_toughest_54 : decode cX7_toughest 54 = .ok (.ireturn, 1) := by decide +kernel
theorem dX7_shivering_0 : decode cX7_shivering 0 = .ok (.iconst 0, 1) := by decide +kernel
theorem dX7_shivering_1 : decode cX7_shivering 1 = .ok (.istore_n 1, 1) := by decide +kernel
theorem dX7_shivering_2 : decode cX7_shivering 2 = .ok (.iconst 0, 1) := by decide +kernel
theorem dX7_shivering_3 : decode cX7_shivering 3 = .ok (.istore_n 2, 1) := by decide +kernel
theorem dX7_shivering_4 : decode cX7_shivering 4 = .ok (.iload_n 2, 1) := by decide +kernel
theorem dX7_shivering_5 : decode cX7_shivering 5 = .ok (.aload_n 0, 1) := by decide +kernel
theorem dX7_shivering_6 : decode cX7_shivering 6 = .ok (.getfield 10, 3) := by decide +kernel
theorem dX7_shivering_9 : decode cX7_shivering 9 = .ok (.getfield 213, 3) := by decide +kernel
theorem dX7_shivering_12 : decode cX7_shivering 12 = .ok (.if_icmp .ge 29, 3) := by decide +kernel
theorem dX7_shivering_15 : decode cX7_shivering 15 = .ok (.iload_n 1, 1) := by decide +kernel
theorem dX7_shivering_16 : decode cX7_shivering 16 = .ok (.aload_n 0, 1) := by decide +kernel
theorem dX7_shivering_17 : decode cX7_shivering 17 = .ok (.getfield 10, 3) := by decide +kernel
theorem dX7_shivering_20 : decode cX7_shivering 20 = .ok (.aload_n 0, 1) := by decide +kernel
theorem dX7_shivering_21 : decode cX7_shivering 21 = .ok (.getfield 10, 3) := by decide +kernel
theorem dX7_shivering_24 : decode cX7_shivering 24 = .ok (.getfield 140, 3) := by decide +kernel
theorem dX7_shivering_27 : decode cX7_shivering 27 = .ok (.iload_n 2, 1) := by decide +kernel
theorem dX7_shivering_28 : decode cX7_shivering 28 = .ok (.iaload, 1) := by decide +kernel
theorem dX7_shivering_29 : decode cX7_shivering 29 = .ok (.iload_n 2, 1) := by decide +kernel
theorem dX7_shivering_30 : decode cX7_shivering 30 = .ok (.invokevirtual 149, 3) := by decide +kernel
theorem dX7_shivering_33 : decode cX7_shivering 33 = .ok (.iadd, 1) := by decide +kernel
theorem dX7_shivering_34 : decode cX7_shivering 34 = .ok (.istore_n 1, 1) := by decide +kernel
theorem dX7_shivering_35 : decode cX7_shivering 35 = .ok (.iinc 2 1, 3) := by decide +kernel
theorem dX7_shivering_38 : decode cX7_shivering 38 = .ok (.goto (-34), 3) := by decide +kernel
theorem dX7_shivering_41 : decode cX7_shivering 41 = .ok (.iload_n 1, 1) := by decide +kernel
theorem dX7_shivering_42 : decode cX7_shivering 42 = .ok (.ireturn, 1) := by decide +kernel
theorem dX7_lead_0 : decode cX7_lead 0 = .ok (.aload_n 0, 1) := by decide +kernel
theorem dX7_lead_1 : decode cX7_lead 1 = .ok (.getfield 10, 3) := by decide +kernel
theorem dX7_lead_4 : decode cX7_lead 4 = .ok (.iconst 0, 1) := by decide +kernel
theorem dX7_lead_5 : decode cX7_lead 5 = .ok (.invokevirtual 219, 3) := by decide +kernel
theorem dX7_lead_8 : decode cX7_lead 8 = .ok (.istore_n 1, 1) := by decide +kernel
theorem dX7_lead_9 : decode cX7_lead 9 = .ok (.aload_n 0, 1) := by decide +kernel
theorem dX7_lead_10 : decode cX7_lead 10 = .ok (.getfield 10, 3) := by decide +kernel
theorem dX7_lead_13 : decode cX7_lead 13 = .ok (.iconst 1, 1) := by decide +kernel
theorem dX7_lead_14 : decode cX7_lead 14 = .ok (.invokevirtual 219, 3) := by decide +kernel
theorem dX7_lead_17 : decode cX7_lead 17 = .ok (.istore_n 2, 1) := by decide +kernel
theorem dX7_lead_18 : decode cX7_lead 18 = .ok (.iload_n 1, 1) := by decide +kernel
theorem dX7_lead_19 : decode cX7_lead 19 = .ok (.iconst (-1), 1) := by decide +kernel
theorem dX7_lead_20 : decode cX7_lead 20 = .ok (.if_icmp .eq 8, 3) := by decide +kernel
theorem dX7_lead_23 : decode cX7_lead 23 = .ok (.iload_n 2, 1) := by decide +kernel
theorem dX7_lead_24 : decode cX7_lead 24 = .ok (.iconst (-1), 1) := by decide +kernel
theorem dX7_lead_25 : decode cX7_lead 25 = .ok (.if_icmp .ne 5, 3) := by decide +kernel
theorem dX7_lead_28 : decode cX7_lead 28 = .ok (.iconst 0, 1) := by decide +kernel
theorem dX7_lead_29 : decode cX7_lead 29 = .ok (.ireturn, 1) := by decide +kernel
theorem dX7_lead_30 : decode cX7_lead 30 = .ok (.aload_n 0, 1) := by decide +kernel
theorem dX7_lead_31 : decode cX7_lead 31 = .ok (.getfield 10, 3) := by decide +kernel
theorem dX7_lead_34 : decode cX7_lead 34 = .ok (.aload_n 0, 1) := by decide +kernel
theorem dX7_lead_35 : decode cX7_lead 35 = .ok (.getfield 10, 3) := by decide +kernel
theorem dX7_lead_38 : decode cX7_lead 38 = .ok (.getfield 140, 3) := by decide +kernel
theorem dX7_lead_41 : decode cX7_lead 41 = .ok (.iload_n 1, 1) := by decide +kernel
theorem dX7_lead_42 : decode cX7_lead 42 = .ok (.iaload, 1) := by decide +kernel
theorem dX7_lead_43 : decode cX7_lead 43 = .ok (.iload_n 1, 1) := by decide +kernel
theorem dX7_lead_44 : decode cX7_lead 44 = .ok (.invokevirtual 149, 3) := by decide +kernel
theorem dX7_lead_47 : decode cX7_lead 47 = .ok (.aload_n 0, 1) := by decide +kernel
theorem dX7_lead_48 : decode cX7_lead 48 = .ok (.getfield 10, 3) := by decide +kernel
theorem dX7_lead_51 : decode cX7_lead 51 = .ok (.aload_n 0, 1) := by decide +kernel
theorem dX7_lead_52 : decode cX7_lead 52 = .ok (.getfield 10, 3) := by decide +kernel
theorem dX7_lead_55 : decode cX7_lead 55 = .ok (.getfield 140, 3) := by decide +kernel
theorem dX7_lead_58 : decode cX7_lead 58 = .ok (.iload_n 2, 1) := by decide +kernel
theorem dX7_lead_59 : decode cX7_lead 59 = .ok (.iaload, 1) := by decide +kernel
theorem dX7_lead_60 : decode cX7_lead 60 = .ok (.iload_n 2, 1) := by decide +kernel
theorem dX7_lead_61 : decode cX7_lead 61 = .ok (.invokevirtual 149, 3) := by decide +kernel
theorem dX7_lead_64 : decode cX7_lead 64 = .ok (.isub, 1) := by decide +kernel
theorem dX7_lead_65 : decode cX7_lead 65 = .ok (.ireturn, 1) := by decide +kernel
theorem dX7_quiet_0 : decode cX7_quiet 0 = .ok (.aload_n 0, 1) := by decide +kernel
theorem dX7_quiet_1 : decode cX7_quiet 1 = .ok (.getfield 22, 3) := by decide +kernel
theorem dX7_quiet_4 : decode cX7_quiet 4 = .ok (.aload_n 0, 1) := by decide +kernel
theorem dX7_quiet_5 : decode cX7_quiet 5 = .ok (.getfield 10, 3) := by decide +kernel
theorem dX7_quiet_8 : decode cX7_quiet 8 = .ok (.invokevirtual 307, 3) := by decide +kernel
theorem dX7_quiet_11 : decode cX7_quiet 11 = .ok (.ireturn, 1) := by decide +kernel
theorem dX7_second_0 : decode cX7_second 0 = .ok (.aload_n 0, 1) := by decide +kernel
theorem dX7_second_1 : decode cX7_second 1 = .ok (.getfield 10, 3) := by decide +kernel
theorem dX7_second_4 : decode cX7_second 4 = .ok (.iload_n 1, 1) := by decide +kernel
theorem dX7_second_5 : decode cX7_second 5 = .ok (.invokevirtual 127, 3) := by decide +kernel
theorem dX7_second_8 : decode cX7_second 8 = .ok (.ifCond .ne 10, 3) := by decide +kernel
theorem dX7_second_11 : decode cX7_second 11 = .ok (.aload_n 0, 1) := by decide +kernel
theorem dX7_second_12 : decode cX7_second 12 = .ok (.bipush (-2), 2) := by decide +kernel
theorem dX7_second_14 : decode cX7_second 14 = .ok (.invokevirtual 77, 3) := by decide +kernel
theorem dX7_second_17 : decode cX7_second 17 = .ok (.ireturn, 1) := by decide +kernel
theorem dX7_second_18 : decode cX7_second 18 = .ok (.aload_n 0, 1) := by decide +kernel
theorem dX7_second_19 : decode cX7_second 19 = .ok (.getfield 22, 3) := by decide +kernel
