theorem dX0_init_0 : decode cX0_init 0 = .ok (.aload_n 0, 1) := by decide +kernel
theorem dX0_init_1 : decode cX0_init 1 = .ok (.invokespecial 3, 3) := by decide +kernel
theorem dX0_init_4 : decode cX0_init 4 = .ok (.aload_n 0, 1) := by decide +kernel
theorem dX0_init_5 : decode cX0_init 5 = .ok (.bipush 8, 2) := by decide +kernel
theorem dX0_init_7 : decode cX0_init 7 = .ok (.newarray .int, 2) := by decide +kernel
theorem dX0_init_9 : decode cX0_init 9 = .ok (.putfield 9, 3) := by decide +kernel
theorem dX0_init_12 : decode cX0_init 12 = .ok (.aload_n 0, 1) := by decide +kernel
theorem dX0_init_13 : decode cX0_init 13 = .ok (.sipush 256, 3) := by decide +kernel
theorem dX0_init_16 : decode cX0_init 16 = .ok (.newarray .int, 2) := by decide +kernel
theorem dX0_init_18 : decode cX0_init 18 = .ok (.putfield 15, 3) := by decide +kernel
theorem dX0_init_21 : decode cX0_init 21 = .ok (.aload_n 0, 1) := by decide +kernel
theorem dX0_init_22 : decode cX0_init 22 = .ok (.iconst 0, 1) := by decide +kernel
theorem dX0_init_23 : decode cX0_init 23 = .ok (.putfield 18, 3) := by decide +kernel
theorem dX0_init_26 : decode cX0_init 26 = .ok (.return_, 1) := by decide +kernel
theorem dX0_firstClash_0 : decode cX0_firstClash 0 = .ok (.aload_n 0, 1) := by decide +kernel
theorem dX0_firstClash_1 : decode cX0_firstClash 1 = .ok (.iconst 0, 1) := by decide +kernel
theorem dX0_firstClash_2 : decode cX0_firstClash 2 = .ok (.bipush 8, 2) := by decide +kernel
theorem dX0_firstClash_4 : decode cX0_firstClash 4 = .ok (.iload_n 3, 1) := by decide +kernel
theorem dX0_firstClash_5 : decode cX0_firstClash 5 = .ok (.invokestatic 22, 3) := by decide +kernel
theorem dX0_firstClash_8 : decode cX0_firstClash 8 = .ok (.invokestatic 28, 3) := by decide +kernel
theorem dX0_firstClash_11 : decode cX0_firstClash 11 = .ok (.putfield 18, 3) := by decide +kernel
theorem dX0_firstClash_14 : decode cX0_firstClash 14 = .ok (.aload_n 0, 1) := by decide +kernel
theorem dX0_firstClash_15 : decode cX0_firstClash 15 = .ok (.getfield 9, 3) := by decide +kernel
theorem dX0_firstClash_18 : decode cX0_firstClash 18 = .ok (.iconst 0, 1) := by decide +kernel
theorem dX0_firstClash_19 : decode cX0_firstClash 19 = .ok (.invokestatic 31, 3) := by decide +kernel
theorem dX0_firstClash_22 : decode cX0_firstClash 22 = .ok (.iconst 0, 1) := by decide +kernel
theorem dX0_firstClash_23 : decode cX0_firstClash 23 = .ok (.istore 4, 2) := by decide +kernel
theorem dX0_firstClash_25 : decode cX0_firstClash 25 = .ok (.iload 4, 2) := by decide +kernel
theorem dX0_firstClash_27 : decode cX0_firstClash 27 = .ok (.iload_n 2, 1) := by decide +kernel
theorem dX0_firstClash_28 : decode cX0_firstClash 28 = .ok (.if_icmp .ge 37, 3) := by decide +kernel
theorem dX0_firstClash_31 : decode cX0_firstClash 31 = .ok (.aload_n 0, 1) := by decide +kernel
theorem dX0_firstClash_32 : decode cX0_firstClash 32 = .ok (.aload_n 1, 1) := by decide +kernel
theorem dX0_firstClash_33 : decode cX0_firstClash 33 = .ok (.iconst 2, 1) := by decide +kernel
theorem dX0_firstClash_34 : decode cX0_firstClash 34 = .ok (.iload 4, 2) := by decide +kernel
theorem dX0_firstClash_36 : decode cX0_firstClash 36 = .ok (.imul, 1) := by decide +kernel
theorem dX0_firstClash_37 : decode cX0_firstClash 37 = .ok (.invokevirtual 37, 3) := by decide +kernel
theorem dX0_firstClash_40 : decode cX0_firstClash 40 = .ok (.aload_n 1, 1) := by decide +kernel
theorem dX0_firstClash_41 : decode cX0_firstClash 41 = .ok (.iconst 2, 1) := by decide +kernel
theorem dX0_firstClash_42 : decode cX0_firstClash 42 = .ok (.iload 4, 2) := by decide +kernel
theorem dX0_firstClash_44 : decode cX0_firstClash 44 = .ok (.imul, 1) := by decide +kernel
theorem dX0_firstClash_45 : decode cX0_firstClash 45 = .ok (.iconst 1, 1) := by decide +kernel
theorem dX0_firstClash_46 : decode cX0_firstClash 46 = .ok (.iadd, 1) := by decide +kernel
theorem dX0_firstClash_47 : decode cX0_firstClash 47 = .ok (.invokevirtual 37, 3) := by decide +kernel
theorem dX0_firstClash_50 : decode cX0_firstClash 50 = .ok (.invokevirtual 43, 3) := by decide +kernel
theorem dX0_firstClash_53 : decode cX0_firstClash 53 = .ok (.ifCond .ne 6, 3) := by decide +kernel
theorem dX0_firstClash_56 : decode cX0_firstClash 56 = .ok (.iload 4, 2) := by decide +kernel
theorem dX0_firstClash_58 : decode cX0_firstClash 58 = .ok (.ireturn, 1) := by decide +kernel
theorem dX0_firstClash_59 : decode cX0_firstClash 59 = .ok (.iinc 4 1, 3) := by decide +kernel
theorem dX0_firstClash_62 : decode cX0_firstClash 62 = .ok (.goto (-37), 3) := by decide +kernel
theorem dX0_firstClash_65 : decode cX0_firstClash 65 = .ok (.iconst (-1), 1) := by decide +kernel
theorem dX0_firstClash_66 : decode cX0_firstClash 66 = .ok (.ireturn, 1) := by decide +kernel
theorem dX0_putAbove_0 : decode cX0_putAbove 0 = .ok (.lload_n 1, 1) := by decide +kernel
theorem dX0_putAbove_1 : decode cX0_putAbove 1 = .ok (.lconst 0, 1) := by decide +kernel
theorem dX0_putAbove_2 : decode cX0_putAbove 2 = .ok (.lcmp, 1) := by decide +kernel
theorem dX0_putAbove_3 : decode cX0_putAbove 3 = .ok (.ifCond .lt 29, 3) := by decide +kernel
theorem dX0_putAbove_6 : decode cX0_putAbove 6 = .ok (.lload_n 1, 1) := by decide +kernel
theorem dX0_putAbove_7 : decode cX0_putAbove 7 = .ok (.aload_n 0, 1) := by decide +kernel
theorem dX0_putAbove_8 : decode cX0_putAbove 8 = .ok (.getfield 18, 3) := by decide +kernel
theorem dX0_putAbove_11 : decode cX0_putAbove 11 = .ok (.i2l, 1) := by decide +kernel
theorem dX0_putAbove_12 : decode cX0_putAbove 12 = .ok (.lcmp, 1) := by decide +kernel
theorem dX0_putAbove_13 : decode cX0_putAbove 13 = .ok (.ifCond .ge 19, 3) := by decide +kernel
theorem dX0_putAbove_16 : decode cX0_putAbove 16 = .ok (.lload_n 3, 1) := by decide +kernel
theorem dX0_putAbove_17 : decode cX0_putAbove 17 = .ok (.lconst 0, 1) := by decide +kernel
theorem dX0_putAbove_18 : decode cX0_putAbove 18 = .ok (.lcmp, 1) := by decide +kernel
theorem dX0_putAbove_19 : decode cX0_putAbove 19 = .ok (.ifCond .lt 13, 3) := by decide +kernel
theorem dX0_putAbove_22 : decode cX0_putAbove 22 = .ok (.lload_n 3, 1) := by decide +kernel
theorem dX0_putAbove_23 : decode cX0_putAbove 23 = .ok (.aload_n 0, 1) := by decide +kernel
theorem dX0_putAbove_24 : decode cX0_putAbove 24 = .ok (.getfield 18, 3) := by decide +kernel
theorem dX0_putAbove_27 : decode cX0_putAbove 27 = .ok (.i2l, 1) := by decide +kernel
theorem dX0_putAbove_28 : decode cX0_putAbove 28 = .ok (.lcmp, 1) := by decide +kernel
theorem dX0_putAbove_29 : decode cX0_putAbove 29 = .ok (.ifCond .lt 5, 3) := by decide +kernel
theorem dX0_putAbove_32 : decode cX0_putAbove 32 = .ok (.iconst 0, 1) := by decide +kernel
theorem dX0_putAbove_33 : decode cX0_putAbove 33 = .ok (.ireturn, 1) := by decide +kernel
theorem dX0_putAbove_34 : decode cX0_putAbove 34 = .ok (.lload_n 1, 1) := by decide +kernel
theorem dX0_putAbove_35 : decode cX0_putAbove 35 = .ok (.l2i, 1) := by decide +kernel
theorem dX0_putAbove_36 : decode cX0_putAbove 36 = .ok (.istore 5, 2) := by decide +kernel
theorem dX0_putAbove_38 : decode cX0_putAbove 38 = .ok (.lload_n 3, 1) := by decide +kernel
theorem dX0_putAbove_39 : decode cX0_putAbove 39 = .ok (.l2i, 1) := by decide +kernel
theorem dX0_putAbove_40 : decode cX0_putAbove 40 = .ok (.istore 6, 2) := by decide +kernel
theorem dX0_putAbove_42 : decode cX0_putAbove 42 = .ok (.iload 5, 2) := by decide +kernel
theorem dX0_putAbove_44 : decode cX0_putAbove 44 = .ok (.iload 6, 2) := by decide +kernel
theorem dX0_putAbove_46 : decode cX0_putAbove 46 = .ok (.if_icmp .eq 14, 3) := by decide +kernel
theorem dX0_putAbove_49 : decode cX0_putAbove 49 = .ok (.aload_n 0, 1) := by decide +kernel
theorem dX0_putAbove_50 : decode cX0_putAbove 50 = .ok (.iload 5, 2) := by decide +kernel
theorem dX0_putAbove_52 : decode cX0_putAbove 52 = .ok (.iload 6, 2) := by decide +kernel
theorem dX0_putAbove_54 : decode cX0_putAbove 54 = .ok (.invokevirtual 47, 3) := by decide +kernel
theorem dX0_putAbove_57 : decode cX0_putAbove 57 = .ok (.ifCond .eq 5, 3) := by decide +kernel
theorem dX0_putAbove_60 : decode cX0_putAbove 60 = .ok (.iconst 0, 1) := by decide +kernel
theorem dX0_putAbove_61 : decode cX0_putAbove 61 = .ok (.ireturn, 1) := by decide +kernel
theorem dX0_putAbove_62 : decode cX0_putAbove 62 = .ok (.aload_n 0, 1) := by decide +kernel
theorem dX0_putAbove_63 : decode cX0_putAbove 63 = .ok (.getfield 9, 3) := by decide +kernel
theorem dX0_putAbove_66 : decode cX0_putAbove 66 = .ok (.iload 6, 2) := by decide +kernel
theorem dX0_putAbove_68 : decode cX0_putAbove 68 = .ok (.iaload, 1) := by decide +kernel
theorem dX0_putAbove_69 : decode cX0_putAbove 69 = .ok (.iconst 1, 1) := by decide +kernel
theorem dX0_putAbove_70 : decode cX0_putAbove 70 = .ok (.iload 6, 2) := by decide +kernel
theorem dX0_putAbove_72 : decode cX0_putAbove 72 = .ok (.ishl, 1) := by decide +kernel
theorem dX0_putAbove_73 : decode cX0_putAbove 73 = .ok (.ior, 1) := by decide +kernel
theorem dX0_putAbove_74 : decode cX0_putAbove 74 = .ok (.istore 7, 2) := by decide +kernel
theorem dX0_putAbove_76 : decode cX0_putAbove 76 = .ok (.iconst 0, 1) := by decide +kernel
theorem dX0_putAbove_77 : decode cX0_putAbove 77 = .ok (.istore 8, 2) := by decide +kernel
theorem dX0_putAbove_79 : decode cX0_putAbove 79 = .ok (.iload 8, 2) := by decide +kernel
theorem dX0_putAbove_81 : decode cX0_putAbove 81 = .ok (.aload_n 0, 1) := by decide +kernel
theorem dX0_putAbove_82 : decode cX0_putAbove 82 = .ok (.getfield 18, 3) := by decide +kernel
theorem dX0_putAbove_85 : decode cX0_putAbove 85 = .ok (.if_icmp .ge 39, 3) := by decide +kernel
theorem dX0_putAbove_88 : decode cX0_putAbove 88 = .ok (.iload 8, 2) := by decide +kernel
theorem dX0_putAbove_90 : decode cX0_putAbove 90 = .ok (.iload 5, 2) := by decide +kernel
theorem dX0_putAbove_92 : decode cX0_putAbove 92 = .ok (.if_icmp .eq 14, 3) := by decide +kernel
theorem dX0_putAbove_95 : decode cX0_putAbove 95 = .ok (.aload_n 0, 1) := by decide +kernel
theorem dX0_putAbove_96 : decode cX0_putAbove 96 = .ok (.iload 5, 2) := by decide +kernel
theorem dX0_putAbove_98 : decode cX0_putAbove 98 = .ok (.iload 8, 2) := by decide +kernel
theorem dX0_putAbove_100 : decode cX0_putAbove 100 = .ok (.invokevirtual 47, 3) := by decide +kernel
theorem dX0_putAbove_103 : decode cX0_putAbove 103 = .ok (.ifCond .eq 15, 3) := by decide +kernel
theorem dX0_putAbove_106 : decode cX0_putAbove 106 = .ok (.aload_n 0, 1) := by decide +kernel
theorem dX0_putAbove_107 : decode cX0_putAbove 107 = .ok (.getfield 9, 3) := by decide +kernel
theorem dX0_putAbove_110 : decode cX0_putAbove 110 = .ok (.iload 8, 2) := by decide +kernel
theorem dX0_putAbove_112 : decode cX0_putAbove 112 = .ok (.dup2, 1) := by decide +kernel
theorem dX0_putAbove_113 : decode cX0_putAbove 113 = .ok (.iaload, 1) := by decide +kernel
theorem dX0_putAbove_114 : decode cX0_putAbove 114 = .ok (.iload 7, 2) := by decide +kernel
theorem dX0_putAbove_116 : decode cX0_putAbove 116 = .ok (.ior, 1) := by decide +kernel
theorem dX0_putAbove_117 : decode cX0_putAbove 117 = .ok (.iastore, 1) := by decide +kernel
theorem dX0_putAbove_118 : decode cX0_putAbove 118 = .ok (.iinc 8 1, 3) := by decide +kernel
theorem dX0_putAbove_121 : decode cX0_putAbove 121 = .ok (.goto (-42), 3) := by decide +kernel
theorem dX0_putAbove_124 : decode cX0_putAbove 124 = .ok (.iconst 1, 1) := by decide +kernel
theorem dX0_putAbove_125 : decode cX0_putAbove 125 = .ok (.ireturn, 1) := by decide +kernel
theorem dX0_isBelow_0 : decode cX0_isBelow 0 = .ok (.aload_n 0, 1) := by decide +kernel
theorem dX0_isBelow_1 : decode cX0_isBelow 1 = .ok (.getfield 9, 3) := by decide +kernel
theorem dX0_isBelow_4 : decode cX0_isBelow 4 = .ok (.iload_n 2, 1) := by decide +kernel
theorem dX0_isBelow_5 : decode cX0_isBelow 5 = .ok (.iaload, 1) := by decide +kernel
theorem dX0_isBelow_6 : decode cX0_isBelow 6 = .ok (.iload_n 1, 1) := by decide +kernel
theorem dX0_isBelow_7 : decode cX0_isBelow 7 = .ok (.ishr, 1) := by decide +kernel
theorem dX0_isBelow_8 : decode cX0_isBelow 8 = .ok (.iconst 1, 1) := by decide +kernel
theorem dX0_isBelow_9 : decode cX0_isBelow 9 = .ok (.iand, 1) := by decide +kernel
theorem dX0_isBelow_10 : decode cX0_isBelow 10 = .ok (.iconst 1, 1) := by decide +kernel
theorem dX0_isBelow_11 : decode cX0_isBelow 11 = .ok (.if_icmp .ne 7, 3) := by decide +kernel
theorem dX0_isBelow_14 : decode cX0_isBelow 14 = .ok (.iconst 1, 1) := by decide +kernel
theorem dX0_isBelow_15 : decode cX0_isBelow 15 = .ok (.goto 4, 3) := by decide +kernel
theorem dX0_isBelow_18 : decode cX0_isBelow 18 = .ok (.iconst 0, 1) := by decide +kernel
theorem dX0_isBelow_19 : decode cX0_isBelow 19 = .ok (.ireturn, 1) := by decide +kernel
theorem dX0_countOrders_0 : decode cX0_countOrders 0 = .ok (.iconst 1, 1) := by decide +kernel
theorem dX0_countOrders_1 : decode cX0_countOrders 1 = .ok (.aload_n 0, 1) := by decide +kernel
theorem dX0_countOrders_2 : decode cX0_countOrders 2 = .ok (.getfield 18, 3) := by decide +kernel
theorem dX0_countOrders_5 : decode cX0_countOrders 5 = .ok (.ishl, 1) := by decide +kernel
theorem dX0_countOrders_6 : decode cX0_countOrders 6 = .ok (.istore_n 3, 1) := by decide +kernel
theorem dX0_countOrders_7 : decode cX0_countOrders 7 = .ok (.aload_n 0, 1) := by decide +kernel
theorem dX0_countOrders_8 : decode cX0_countOrders 8 = .ok (.getfield 15, 3) := by decide +kernel
theorem dX0_countOrders_11 : decode cX0_countOrders 11 = .ok (.iconst 0, 1) := by decide +kernel
theorem dX0_countOrders_12 : decode cX0_countOrders 12 = .ok (.invokestatic 31, 3) := by decide +kernel
theorem dX0_countOrders_15 : decode cX0_countOrders 15 = .ok (.aload_n 0, 1) := by decide +kernel
theorem dX0_countOrders_16 : decode cX0_countOrders 16 = .ok (.getfield 15, 3) := by decide +kernel
theorem dX0_countOrders_19 : decode cX0_countOrders 19 = .ok (.iconst 0, 1) := by decide +kernel
theorem dX0_countOrders_20 : decode cX0_countOrders 20 = .ok (.iconst 1, 1) := by decide +kernel
theorem dX0_countOrders_21 : decode cX0_countOrders 21 = .ok (.iastore, 1) := by decide +kernel
theorem dX0_countOrders_22 : decode cX0_countOrders 22 = .ok (.iconst 0, 1) := by decide +kernel
theorem dX0_countOrders_23 : decode cX0_countOrders 23 = .ok (.istore 4, 2) := by decide +kernel
theorem dX0_countOrders_25 : decode cX0_countOrders 25 = .ok (.iload 4, 2) := by decide +kernel
theorem dX0_countOrders_27 : decode cX0_countOrders 27 = .ok (.iload_n 3, 1) := by decide +kernel
theorem dX0_countOrders_28 : decode cX0_countOrders 28 = .ok (.if_icmp .ge 112, 3) := by decide +kernel
theorem dX0_countOrders_31 : decode cX0_countOrders 31 = .ok (.iconst 0, 1) := by decide +kernel
theorem dX0_countOrders_32 : decode cX0_countOrders 32 = .ok (.istore 5, 2) := by decide +kernel
theorem dX0_countOrders_34 : decode cX0_countOrders 34 = .ok (.iload 5, 2) := by decide +kernel
theorem dX0_countOrders_36 : decode cX0_countOrders 36 = .ok (.aload_n 0, 1) := by decide +kernel
theorem dX0_countOrders_37 : decode cX0_countOrders 37 = .ok (.getfield 18, 3) := by decide +kernel
theorem dX0_countOrders_40 : decode cX0_countOrders 40 = .ok (.if_icmp .ge 94, 3) := by decide +kernel
theorem dX0_countOrders_43 : decode cX0_countOrders 43 = .ok (.aload_n 0, 1) := by decide +kernel
theorem dX0_countOrders_44 : decode cX0_countOrders 44 = .ok (.getfield 15, 3) := by decide +kernel
theorem dX0_countOrders_47 : decode cX0_countOrders 47 = .ok (.iload 4, 2) := by decide +kernel
theorem dX0_countOrders_49 : decode cX0_countOrders 49 = .ok (.iaload, 1) := by decide +kernel
theorem dX0_countOrders_50 : decode cX0_countOrders 50 = .ok (.ifCond .eq 84, 3) := by decide +kernel
theorem dX0_countOrders_53 : decode cX0_countOrders 53 = .ok (.iload 5, 2) := by decide +kernel
theorem dX0_countOrders_55 : decode cX0_countOrders 55 = .ok (.iload_n 1, 1) := by decide +kernel
theorem dX0_countOrders_56 : decode cX0_countOrders 56 = .ok (.if_icmp .ne 21, 3) := by decide +kernel
theorem dX0_countOrders_59 : decode cX0_countOrders 59 = .ok (.iload_n 2, 1) := by decide +kernel
theorem dX0_countOrders_60 : decode cX0_countOrders 60 = .ok (.ifCond .lt 17, 3) := by decide +kernel
theorem dX0_countOrders_63 : decode cX0_countOrders 63 = .ok (.aload_n 0, 1) := by decide +kernel
theorem dX0_countOrders_64 : decode cX0_countOrders 64 = .ok (.getfield 9, 3) := by decide +kernel
theorem dX0_countOrders_67 : decode cX0_countOrders 67 = .ok (.iload 5, 2) := by decide +kernel
theorem dX0_countOrders_69 : decode cX0_countOrders 69 = .ok (.iaload, 1) := by decide +kernel
theorem dX0_countOrders_70 : decode cX0_countOrders 70 = .ok (.iconst 1, 1) := by decide +kernel
theorem dX0_countOrders_71 : decode cX0_countOrders 71 = .ok (.iload_n 2, 1) := by decide +kernel
theorem dX0_countOrders_72 : decode cX0_countOrders 72 = .ok (.ishl, 1) := by decide +kernel
theorem dX0_countOrders_73 : decode cX0_countOrders 73 = .ok (.ior, 1) := by decide +kernel
theorem dX0_countOrders_74 : decode cX0_countOrders 74 = .ok (.goto 10, 3) := by decide +kernel
theorem dX0_countOrders_77 : decode cX0_countOrders 77 = .ok (.aload_n 0, 1) := by decide +kernel
theorem dX0_countOrders_78 : decode cX0_countOrders 78 = .ok (.getfield 9, 3) := by decide +kernel
theorem dX0_countOrders_81 : decode cX0_countOrders 81 = .ok (.iload 5, 2) := by decide +kernel
theorem dX0_countOrders_83 : decode cX0_countOrders 83 = .ok (.iaload, 1) := by decide +kernel
theorem dX0_countOrders_84 : decode cX0_countOrders 84 = .ok (.istore 6, 2) := by decide +kernel
theorem dX0_countOrders_86 : decode cX0_countOrders 86 = .ok (.iload 4, 2) := by decide +kernel
theorem dX0_countOrders_88 : decode cX0_countOrders 88 = .ok (.iload 5, 2) := by decide +kernel
theorem dX0_countOrders_90 : decode cX0_countOrders 90 = .ok (.ishr, 1) := by decide +kernel
theorem dX0_countOrders_91 : decode cX0_countOrders 91 = .ok (.iconst 1, 1) := by decide +kernel
theorem dX0_countOrders_92 : decode cX0_countOrders 92 = .ok (.iand, 1) := by decide +kernel
theorem dX0_countOrders_93 : decode cX0_countOrders 93 = .ok (.ifCond .ne 35, 3) := by decide +kernel
theorem dX0_countOrders_96 : decode cX0_countOrders 96 = .ok (.iload 6, 2) := by decide +kernel
theorem dX0_countOrders_98 : decode cX0_countOrders 98 = .ok (.iload 4, 2) := by decide +kernel
theorem dX0_countOrders_100 : decode cX0_countOrders 100 = .ok (.iconst (-1), 1) := by decide +kernel
theorem dX0_countOrders_101 : decode cX0_countOrders 101 = .ok (.ixor, 1) := by decide +kernel
theorem dX0_countOrders_102 : decode cX0_countOrders 102 = .ok (.iand, 1) := by decide +kernel
theorem dX0_countOrders_103 : decode cX0_countOrders 103 = .ok (.ifCond .ne 25, 3) := by decide +kernel
theorem dX0_countOrders_106 : decode cX0_countOrders 106 = .ok (.aload_n 0, 1) := by decide +kernel
theorem dX0_countOrders_107 : decode cX0_countOrders 107 = .ok (.getfield 15, 3) := by decide +kernel
theorem dX0_countOrders_110 : decode cX0_countOrders 110 = .ok (.iload 4, 2) := by decide +kernel
theorem dX0_countOrders_112 : decode cX0_countOrders 112 = .ok (.iconst 1, 1) := by decide +kernel
theorem dX0_countOrders_113 : decode cX0_countOrders 113 = .ok (.iload 5, 2) := by decide +kernel
theorem dX0_countOrders_115 : decode cX0_countOrders 115 = .ok (.ishl, 1) := by decide +kernel
theorem dX0_countOrders_116 : decode cX0_countOrders 116 = .ok (.ior, 1) := by decide +kernel
theorem dX0_countOrders_117 : decode cX0_countOrders 117 = .ok (.dup2, 1) := by decide +kernel
theorem dX0_countOrders_118 : decode cX0_countOrders 118 = .ok (.iaload, 1) := by decide +kernel
theorem dX0_countOrders_119 : decode cX0_countOrders 119 = .ok (.aload_n 0, 1) := by decide +kernel
theorem dX0_countOrders_120 : decode cX0_countOrders 120 = .ok (.getfield 15, 3) := by decide +kernel
theorem dX0_countOrders_123 : decode cX0_countOrders 123 = .ok (.iload 4, 2) := by decide +kernel
theorem dX0_countOrders_125 : decode cX0_countOrders 125 = .ok (.iaload, 1) := by decide +kernel
theorem dX0_countOrders_126 : decode cX0_countOrders 126 = .ok (.iadd, 1) := by decide +kernel
theorem dX0_countOrders_127 : decode cX0_countOrders 127 = .ok (.iastore, 1) := by decide +kernel
theorem dX0_countOrders_128 : decode cX0_countOrders 128 = .ok (.iinc 5 1, 3) := by decide +kernel
theorem dX0_countOrders_131 : decode cX0_countOrders 131 = .ok (.goto (-97), 3) := by decide +kernel
theorem dX0_countOrders_134 : decode cX0_countOrders 134 = .ok (.iinc 4 1, 3) := by decide +kernel
theorem dX0_countOrders_137 : decode cX0_countOrders 137 = .ok (.goto (-112), 3) := by decide +kernel
theorem dX0_countOrders_140 : decode cX0_countOrders 140 = .ok (.aload_n 0, 1) := by decide +kernel
theorem dX0_countOrders_141 : decode cX0_countOrders 141 = .ok (.getfield 15, 3) := by decide +kernel
theorem dX0_countOrders_144 : decode cX0_countOrders 144 = .ok (.iload_n 3, 1) := by decide +kernel
theorem dX0_countOrders_145 : decode cX0_countOrders 145 = .ok (.iconst 1, 1) := by decide +kernel
theorem dX0_countOrders_146 : decode cX0_countOrders 146 = .ok (.isub, 1) := by decide +kernel
theorem dX0_countOrders_147 : decode cX0_countOrders 147 = .ok (.iaload, 1) := by decide +kernel
theorem dX0_countOrders_148 : decode cX0_countOrders 148 = .ok (.ireturn, 1) := by decide +kernel
theorem dX0_bestTwo_0 : decode cX0_bestTwo 0 = .ok (.aload_n 0, 1) := by decide +kernel
theorem dX0_bestTwo_1 : decode cX0_bestTwo 1 = .ok (.iconst (-1), 1) := by decide +kernel
theorem dX0_bestTwo_2 : decode cX0_bestTwo 2 = .ok (.iconst (-1), 1) := by decide +kernel
theorem dX0_bestTwo_3 : decode cX0_bestTwo 3 = .ok (.invokevirtual 51, 3) := by decide +kernel
theorem dX0_bestTwo_6 : decode cX0_bestTwo 6 = .ok (.istore_n 1, 1) := by decide +kernel
theorem dX0_bestTwo_7 : decode cX0_bestTwo 7 = .ok (.iconst (-1), 1) := by decide +kernel
theorem dX0_bestTwo_8 : decode cX0_bestTwo 8 = .ok (.istore_n 2, 1) := by decide +kernel
theorem dX0_bestTwo_9 : decode cX0_bestTwo 9 = .ok (.iconst 0, 1) := by decide +kernel
theorem dX0_bestTwo_10 : decode cX0_bestTwo 10 = .ok (.istore_n 3, 1) := by decide +kernel
theorem dX0_bestTwo_11 : decode cX0_bestTwo 11 = .ok (.iconst 0, 1) := by decide +kernel
theorem dX0_bestTwo_12 : decode cX0_bestTwo 12 = .ok (.istore 4, 2) := by decide +kernel
theorem dX0_bestTwo_14 : decode cX0_bestTwo 14 = .ok (.iload 4, 2) := by decide +kernel
theorem dX0_bestTwo_16 : decode cX0_bestTwo 16 = .ok (.aload_n 0, 1) := by decide +kernel
theorem dX0_bestTwo_17 : decode cX0_bestTwo 17 = .ok (.getfield 18, 3) := by decide +kernel
theorem dX0_bestTwo_20 : decode cX0_bestTwo 20 = .ok (.if_icmp .ge 99, 3) := by decide +kernel
theorem dX0_bestTwo_23 : decode cX0_bestTwo 23 = .ok (.iload 4, 2) := by decide +kernel
theorem dX0_bestTwo_25 : decode cX0_bestTwo 25 = .ok (.iconst 1, 1) := by decide +kernel
theorem dX0_bestTwo_26 : decode cX0_bestTwo 26 = .ok (.iadd, 1) := by decide +kernel
theorem dX0_bestTwo_27 : decode cX0_bestTwo 27 = .ok (.istore 5, 2) := by decide +kernel
theorem dX0_bestTwo_29 : decode cX0_bestTwo 29 = .ok (.iload 5, 2) := by decide +kernel
theorem dX0_bestTwo_31 : decode cX0_bestTwo 31 = .ok (.aload_n 0, 1) := by decide +kernel
theorem dX0_bestTwo_32 : decode cX0_bestTwo 32 = .ok (.getfield 18, 3) := by decide +kernel
theorem dX0_bestTwo_35 : decode cX0_bestTwo 35 = .ok (.if_icmp .ge 78, 3) := by decide +kernel
theorem dX0_bestTwo_38 : decode cX0_bestTwo 38 = .ok (.aload_n 0, 1) := by decide +kernel
theorem dX0_bestTwo_39 : decode cX0_bestTwo 39 = .ok (.iload 4, 2) := by decide +kernel
theorem dX0_bestTwo_41 : decode cX0_bestTwo 41 = .ok (.iload 5, 2) := by decide +kernel
theorem dX0_bestTwo_43 : decode cX0_bestTwo 43 = .ok (.invokevirtual 47, 3) := by decide +kernel
theorem dX0_bestTwo_46 : decode cX0_bestTwo 46 = .ok (.ifCond .ne 61, 3) := by decide +kernel
theorem dX0_bestTwo_49 : decode cX0_bestTwo 49 = .ok (.aload_n 0, 1) := by decide +kernel
theorem dX0_bestTwo_50 : decode cX0_bestTwo 50 = .ok (.iload 5, 2) := by decide +kernel
theorem dX0_bestTwo_52 : decode cX0_bestTwo 52 = .ok (.iload 4, 2) := by decide +kernel
theorem dX0_bestTwo_54 : decode cX0_bestTwo 54 = .ok (.invokevirtual 47, 3) := by decide +kernel
theorem dX0_bestTwo_57 : decode cX0_bestTwo 57 = .ok (.ifCond .eq 6, 3) := by decide +kernel
theorem dX0_bestTwo_60 : decode cX0_bestTwo 60 = .ok (.goto 47, 3) := by decide +kernel
theorem dX0_bestTwo_63 : decode cX0_bestTwo 63 = .ok (.aload_n 0, 1) := by decide +kernel
theorem dX0_bestTwo_64 : decode cX0_bestTwo 64 = .ok (.iload 4, 2) := by decide +kernel
theorem dX0_bestTwo_66 : decode cX0_bestTwo 66 = .ok (.iload 5, 2) := by decide +kernel
theorem dX0_bestTwo_68 : decode cX0_bestTwo 68 = .ok (.invokevirtual 51, 3) := by decide +kernel
theorem dX0_bestTwo_71 : decode cX0_bestTwo 71 = .ok (.istore 6, 2) := by decide +kernel
theorem dX0_bestTwo_73 : decode cX0_bestTwo 73 = .ok (.iload 6, 2) := by decide +kernel
theorem dX0_bestTwo_75 : decode cX0_bestTwo 75 = .ok (.iload_n 1, 1) := by decide +kernel
theorem dX0_bestTwo_76 : decode cX0_bestTwo 76 = .ok (.iload 6, 2) := by decide +kernel
theorem dX0_bestTwo_78 : decode cX0_bestTwo 78 = .ok (.isub, 1) := by decide +kernel
theorem dX0_bestTwo_79 : decode cX0_bestTwo 79 = .ok (.invokestatic 28, 3) := by decide +kernel
theorem dX0_bestTwo_82 : decode cX0_bestTwo 82 = .ok (.istore 7, 2) := by decide +kernel
theorem dX0_bestTwo_84 : decode cX0_bestTwo 84 = .ok (.iload_n 2, 1) := by decide +kernel
theorem dX0_bestTwo_85 : decode cX0_bestTwo 85 = .ok (.iconst (-1), 1) := by decide +kernel
theorem dX0_bestTwo_86 : decode cX0_bestTwo 86 = .ok (.if_icmp .eq 9, 3) := by decide +kernel
theorem dX0_bestTwo_89 : decode cX0_bestTwo 89 = .ok (.iload 7, 2) := by decide +kernel
theorem dX0_bestTwo_91 : decode cX0_bestTwo 91 = .ok (.iload_n 3, 1) := by decide +kernel
theorem dX0_bestTwo_92 : decode cX0_bestTwo 92 = .ok (.if_icmp .ge 15, 3) := by decide +kernel
theorem dX0_bestTwo_95 : decode cX0_bestTwo 95 = .ok (.bipush 10, 2) := by decide +kernel
theorem dX0_bestTwo_97 : decode cX0_bestTwo 97 = .ok (.iload 4, 2) := by decide +kernel
theorem dX0_bestTwo_99 : decode cX0_bestTwo 99 = .ok (.imul, 1) := by decide +kernel
theorem dX0_bestTwo_100 : decode cX0_bestTwo 100 = .ok (.iload 5, 2) := by decide +kernel
theorem dX0_bestTwo_102 : decode cX0_bestTwo 102 = .ok (.iadd, 1) := by decide +kernel
theorem dX0_bestTwo_103 : decode cX0_bestTwo 103 = .ok (.istore_n 2, 1) := by decide +kernel
theorem dX0_bestTwo_104 : decode cX0_bestTwo 104 = .ok (.iload 7, 2) := by decide +kernel
theorem dX0_bestTwo_106 : decode cX0_bestTwo 106 = .ok (.istore_n 3, 1) := by decide +kernel
theorem dX0_bestTwo_107 : decode cX0_bestTwo 107 = .ok (.iinc 5 1, 3) := by decide +kernel
theorem dX0_bestTwo_110 : decode cX0_bestTwo 110 = .ok (.goto (-81), 3) := by decide +kernel
theorem dX0_bestTwo_113 : decode cX0_bestTwo 113 = .ok (.iinc 4 1, 3) := by decide +kernel
theorem dX0_bestTwo_116 : decode cX0_bestTwo 116 = .ok (.goto (-102), 3) := by decide +kernel
theorem dX0_bestTwo_119 : decode cX0_bestTwo 119 = .ok (.iload_n 2, 1) := by decide +kernel
theorem dX0_bestTwo_120 : decode cX0_bestTwo 120 = .ok (.ireturn, 1) := by decide +kernel
theorem dX0_underNobody_0 : decode cX0_underNobody 0 = .ok (.iconst 0, 1) := by decide +kernel
theorem dX0_underNobody_1 : decode cX0_underNobody 1 = .ok (.istore_n 1, 1) := by decide +kernel
theorem dX0_underNobody_2 : decode cX0_underNobody 2 = .ok (.iconst 0, 1) := by decide +kernel
theorem dX0_underNobody_3 : decode cX0_underNobody 3 = .ok (.istore_n 2, 1) := by decide +kernel
theorem dX0_underNobody_4 : decode cX0_underNobody 4 = .ok (.iload_n 2, 1) := by decide +kernel
theorem dX0_underNobody_5 : decode cX0_underNobody 5 = .ok (.aload_n 0, 1) := by decide +kernel
theorem dX0_underNobody_6 : decode cX0_underNobody 6 = .ok (.getfield 18, 3) := by decide +kernel
theorem dX0_underNobody_9 : decode cX0_underNobody 9 = .ok (.if_icmp .ge 18, 3) := by decide +kernel
theorem dX0_underNobody_12 : decode cX0_underNobody 12 = .ok (.iload_n 1, 1) := by decide +kernel
theorem dX0_underNobody_13 : decode cX0_underNobody 13 = .ok (.aload_n 0, 1) := by decide +kernel
theorem dX0_underNobody_14 : decode cX0_underNobody 14 = .ok (.getfield 9, 3) := by decide +kernel
theorem dX0_underNobody_17 : decode cX0_underNobody 17 = .ok (.iload_n 2, 1) := by decide +kernel
theorem dX0_underNobody_18 : decode cX0_underNobody 18 = .ok (.iaload, 1) := by decide +kernel
theorem dX0_underNobody_19 : decode cX0_underNobody 19 = .ok (.ior, 1) := by decide +kernel
theorem dX0_underNobody_20 : decode cX0_underNobody 20 = .ok (.istore_n 1, 1) := by decide +kernel
theorem dX0_underNobody_21 : decode cX0_underNobody 21 = .ok (.iinc 2 1, 3) := by decide +kernel
theorem dX0_underNobody_24 : decode cX0_underNobody 24 = .ok (.goto (-20), 3) := by decide +kernel
theorem dX0_underNobody_27 : decode cX0_underNobody 27 = .ok (.iconst 1, 1) := by decide +kernel
theorem dX0_underNobody_28 : decode cX0_underNobody 28 = .ok (.aload_n 0, 1) := by decide +kernel
theorem dX0_underNobody_29 : decode cX0_underNobody 29 = .ok (.getfield 18, 3) := by decide +kernel
theorem dX0_underNobody_32 : decode cX0_underNobody 32 = .ok (.ishl, 1) := by decide +kernel
theorem dX0_underNobody_33 : decode cX0_underNobody 33 = .ok (.iconst 1, 1) := by decide +kernel
theorem dX0_underNobody_34 : decode cX0_underNobody 34 = .ok (.isub, 1) := by decide +kernel
theorem dX0_underNobody_35 : decode cX0_underNobody 35 = .ok (.iload_n 1, 1) := by decide +kernel
theorem dX0_underNobody_36 : decode cX0_underNobody 36 = .ok (.iconst (-1), 1) := by decide +kernel
theorem dX0_underNobody_37 : decode cX0_underNobody 37 = .ok (.ixor, 1) := by decide +kernel
theorem dX0_underNobody_38 : decode cX0_underNobody 38 = .ok (.iand, 1) := by decide +kernel
theorem dX0_underNobody_39 : decode cX0_underNobody 39 = .ok (.ireturn, 1) := by decide +kernel
theorem dX1_init_0 : decode cX1_init 0 = .ok (.aload_n 0, 1) := by decide +kernel
theorem dX1_init_1 : decode cX1_init 1 = .ok (.invokespecial 3, 3) := by decide +kernel
theorem dX1_init_4 : decode cX1_init 4 = .ok (.aload_n 0, 1) := by decide +kernel
theorem dX1_init_5 : decode cX1_init 5 = .ok (.new 9, 3) := by decide +kernel
theorem dX1_init_8 : decode cX1_init 8 = .ok (.dup, 1) := by decide +kernel
theorem dX1_init_9 : decode cX1_init 9 = .ok (.invokespecial 11, 3) := by decide +kernel
theorem dX1_init_12 : decode cX1_init 12 = .ok (.putfield 12, 3) := by decide +kernel
theorem dX1_init_15 : decode cX1_init 15 = .ok (.aload_n 0, 1) := by decide +kernel
theorem dX1_init_16 : decode cX1_init 16 = .ok (.bipush 41, 2) := by decide +kernel
theorem dX1_init_18 : decode cX1_init 18 = .ok (.newarray .int, 2) := by decide +kernel
theorem dX1_init_20 : decode cX1_init 20 = .ok (.putfield 18, 3) := by decide +kernel
theorem dX1_init_23 : decode cX1_init 23 = .ok (.aload_n 0, 1) := by decide +kernel
theorem dX1_init_24 : decode cX1_init 24 = .ok (.bipush 41, 2) := by decide +kernel
theorem dX1_init_26 : decode cX1_init 26 = .ok (.newarray .int, 2) := by decide +kernel
theorem dX1_init_28 : decode cX1_init 28 = .ok (.putfield 22, 3) := by decide +kernel
theorem dX1_init_31 : decode cX1_init 31 = .ok (.aload_n 0, 1) := by decide +kernel
theorem dX1_init_32 : decode cX1_init 32 = .ok (.iconst 1, 1) := by decide +kernel
theorem dX1_init_33 : decode cX1_init 33 = .ok (.putfield 25, 3) := by decide +kernel
theorem dX1_init_36 : decode cX1_init 36 = .ok (.return_, 1) := by decide +kernel
theorem dX1_spread_0 : decode cX1_spread 0 = .ok (.aload_n 0, 1) := by decide +kernel
theorem dX1_spread_1 : decode cX1_spread 1 = .ok (.getfield 12, 3) := by decide +kernel
theorem dX1_spread_4 : decode cX1_spread 4 = .ok (.aload_n 1, 1) := by decide +kernel
theorem dX1_spread_5 : decode cX1_spread 5 = .ok (.invokevirtual 29, 3) := by decide +kernel
theorem dX1_spread_8 : decode cX1_spread 8 = .ok (.aload_n 0, 1) := by decide +kernel
theorem dX1_spread_9 : decode cX1_spread 9 = .ok (.getfield 18, 3) := by decide +kernel
theorem dX1_spread_12 : decode cX1_spread 12 = .ok (.iconst 0, 1) := by decide +kernel
theorem dX1_spread_13 : decode cX1_spread 13 = .ok (.invokestatic 33, 3) := by decide +kernel
theorem dX1_spread_16 : decode cX1_spread 16 = .ok (.aload_n 0, 1) := by decide +kernel
theorem dX1_spread_17 : decode cX1_spread 17 = .ok (.getfield 22, 3) := by decide +kernel
theorem dX1_spread_20 : decode cX1_spread 20 = .ok (.iconst 0, 1) := by decide +kernel
theorem dX1_spread_21 : decode cX1_spread 21 = .ok (.invokestatic 33, 3) := by decide +kernel
theorem dX1_spread_24 : decode cX1_spread 24 = .ok (.aload_n 0, 1) := by decide +kernel
theorem dX1_spread_25 : decode cX1_spread 25 = .ok (.iconst 1, 1) := by decide +kernel
theorem dX1_spread_26 : decode cX1_spread 26 = .ok (.putfield 25, 3) := by decide +kernel
theorem dX1_spread_29 : decode cX1_spread 29 = .ok (.aload_n 1, 1) := by decide +kernel
theorem dX1_spread_30 : decode cX1_spread 30 = .ok (.getfield 39, 3) := by decide +kernel
theorem dX1_spread_33 : decode cX1_spread 33 = .ok (.bipush 40, 2) := by decide +kernel
theorem dX1_spread_35 : decode cX1_spread 35 = .ok (.invokestatic 42, 3) := by decide +kernel
theorem dX1_spread_38 : decode cX1_spread 38 = .ok (.ifCond .eq 23, 3) := by decide +kernel
theorem dX1_spread_41 : decode cX1_spread 41 = .ok (.aload_n 0, 1) := by decide +kernel
theorem dX1_spread_42 : decode cX1_spread 42 = .ok (.getfield 18, 3) := by decide +kernel
theorem dX1_spread_45 : decode cX1_spread 45 = .ok (.aload_n 1, 1) := by decide +kernel
theorem dX1_spread_46 : decode cX1_spread 46 = .ok (.getfield 39, 3) := by decide +kernel
theorem dX1_spread_49 : decode cX1_spread 49 = .ok (.iconst 1, 1) := by decide +kernel
theorem dX1_spread_50 : decode cX1_spread 50 = .ok (.iastore, 1) := by decide +kernel
theorem dX1_spread_51 : decode cX1_spread 51 = .ok (.aload_n 0, 1) := by decide +kernel
theorem dX1_spread_52 : decode cX1_spread 52 = .ok (.getfield 22, 3) := by decide +kernel
theorem dX1_spread_55 : decode cX1_spread 55 = .ok (.aload_n 1, 1) := by decide +kernel
theorem dX1_spread_56 : decode cX1_spread 56 = .ok (.getfield 39, 3) := by decide +kernel
theorem dX1_spread_59 : decode cX1_spread 59 = .ok (.iconst 1, 1) := by decide +kernel
theorem dX1_spread_60 : decode cX1_spread 60 = .ok (.iastore, 1) := by decide +kernel
theorem dX1_spread_61 : decode cX1_spread 61 = .ok (.aload_n 0, 1) := by decide +kernel
theorem dX1_spread_62 : decode cX1_spread 62 = .ok (.getfield 12, 3) := by decide +kernel
theorem dX1_spread_65 : decode cX1_spread 65 = .ok (.iconst 0, 1) := by decide +kernel
theorem dX1_spread_66 : decode cX1_spread 66 = .ok (.putfield 46, 3) := by decide +kernel
theorem dX1_spread_69 : decode cX1_spread 69 = .ok (.aload_n 0, 1) := by decide +kernel
theorem dX1_spread_70 : decode cX1_spread 70 = .ok (.invokevirtual 49, 3) := by decide +kernel
theorem dX1_spread_73 : decode cX1_spread 73 = .ok (.iconst 0, 1) := by decide +kernel
theorem dX1_spread_74 : decode cX1_spread 74 = .ok (.istore_n 3, 1) := by decide +kernel
theorem dX1_spread_75 : decode cX1_spread 75 = .ok (.iload_n 3, 1) := by decide +kernel
theorem dX1_spread_76 : decode cX1_spread 76 = .ok (.iload_n 2, 1) := by decide +kernel
theorem dX1_spread_77 : decode cX1_spread 77 = .ok (.if_icmp .ge 45, 3) := by decide +kernel
theorem dX1_spread_80 : decode cX1_spread 80 = .ok (.aload_n 0, 1) := by decide +kernel
theorem dX1_spread_81 : decode cX1_spread 81 = .ok (.getfield 18, 3) := by decide +kernel
theorem dX1_spread_84 : decode cX1_spread 84 = .ok (.invokestatic 52, 3) := by decide +kernel
theorem dX1_spread_87 : decode cX1_spread 87 = .ok (.aload_n 0, 1) := by decide +kernel
theorem dX1_spread_88 : decode cX1_spread 88 = .ok (.getfield 22, 3) := by decide +kernel
theorem dX1_spread_91 : decode cX1_spread 91 = .ok (.invokestatic 52, 3) := by decide +kernel
theorem dX1_spread_94 : decode cX1_spread 94 = .ok (.aload_n 0, 1) := by decide +kernel
theorem dX1_spread_95 : decode cX1_spread 95 = .ok (.dup, 1) := by decide +kernel
theorem dX1_spread_96 : decode cX1_spread 96 = .ok (.getfield 25, 3) := by decide +kernel
theorem dX1_spread_99 : decode cX1_spread 99 = .ok (.iconst 4, 1) := by decide +kernel
theorem dX1_spread_100 : decode cX1_spread 100 = .ok (.imul, 1) := by decide +kernel
theorem dX1_spread_101 : decode cX1_spread 101 = .ok (.putfield 25, 3) := by decide +kernel
theorem dX1_spread_104 : decode cX1_spread 104 = .ok (.aload_n 0, 1) := by decide +kernel
theorem dX1_spread_105 : decode cX1_spread 105 = .ok (.getfield 12, 3) := by decide +kernel
theorem dX1_spread_108 : decode cX1_spread 108 = .ok (.iconst 1, 1) := by decide +kernel
theorem dX1_spread_109 : decode cX1_spread 109 = .ok (.invokevirtual 56, 3) := by decide +kernel
theorem dX1_spread_112 : decode cX1_spread 112 = .ok (.aload_n 0, 1) := by decide +kernel
theorem dX1_spread_113 : decode cX1_spread 113 = .ok (.invokevirtual 49, 3) := by decide +kernel
theorem dX1_spread_116 : decode cX1_spread 116 = .ok (.iinc 3 1, 3) := by decide +kernel
theorem dX1_spread_119 : decode cX1_spread 119 = .ok (.goto (-44), 3) := by decide +kernel
theorem dX1_spread_122 : decode cX1_spread 122 = .ok (.return_, 1) := by decide +kernel
theorem dX1_fallOnce_0 : decode cX1_fallOnce 0 = .ok (.iconst 0, 1) := by decide +kernel
theorem dX1_fallOnce_1 : decode cX1_fallOnce 1 = .ok (.istore_n 1, 1) := by decide +kernel
theorem dX1_fallOnce_2 : decode cX1_fallOnce 2 = .ok (.iload_n 1, 1) := by decide +kernel
theorem dX1_fallOnce_3 : decode cX1_fallOnce 3 = .ok (.aload_n 0, 1) := by decide +kernel
theorem dX1_fallOnce_4 : decode cX1_fallOnce 4 = .ok (.arraylength, 1) := by decide +kernel
theorem dX1_fallOnce_5 : decode cX1_fallOnce 5 = .ok (.if_icmp .ge 43, 3) := by decide +kernel
theorem dX1_fallOnce_8 : decode cX1_fallOnce 8 = .ok (.aload_n 0, 1) := by decide +kernel
theorem dX1_fallOnce_9 : decode cX1_fallOnce 9 = .ok (.iload_n 1, 1) := by decide +kernel
theorem dX1_fallOnce_10 : decode cX1_fallOnce 10 = .ok (.iaload, 1) := by decide +kernel
theorem dX1_fallOnce_11 : decode cX1_fallOnce 11 = .ok (.istore_n 2, 1) := by decide +kernel
theorem dX1_fallOnce_12 : decode cX1_fallOnce 12 = .ok (.aload_n 0, 1) := by decide +kernel
theorem dX1_fallOnce_13 : decode cX1_fallOnce 13 = .ok (.iload_n 1, 1) := by decide +kernel
theorem dX1_fallOnce_14 : decode cX1_fallOnce 14 = .ok (.iconst 0, 1) := by decide +kernel
theorem dX1_fallOnce_15 : decode cX1_fallOnce 15 = .ok (.iastore, 1) := by decide +kernel
theorem dX1_fallOnce_16 : decode cX1_fallOnce 16 = .ok (.iconst 0, 1) := by decide +kernel
theorem dX1_fallOnce_17 : decode cX1_fallOnce 17 = .ok (.istore_n 3, 1) := by decide +kernel
theorem dX1_fallOnce_18 : decode cX1_fallOnce 18 = .ok (.iload_n 3, 1) := by decide +kernel
theorem dX1_fallOnce_19 : decode cX1_fallOnce 19 = .ok (.iconst 4, 1) := by decide +kernel
theorem dX1_fallOnce_20 : decode cX1_fallOnce 20 = .ok (.if_icmp .ge 22, 3) := by decide +kernel
theorem dX1_fallOnce_23 : decode cX1_fallOnce 23 = .ok (.aload_n 0, 1) := by decide +kernel
theorem dX1_fallOnce_24 : decode cX1_fallOnce 24 = .ok (.iconst 0, 1) := by decide +kernel
theorem dX1_fallOnce_25 : decode cX1_fallOnce 25 = .ok (.iload_n 1, 1) := by decide +kernel
theorem dX1_fallOnce_26 : decode cX1_fallOnce 26 = .ok (.iload_n 3, 1) := by decide +kernel
theorem dX1_fallOnce_27 : decode cX1_fallOnce 27 = .ok (.isub, 1) := by decide +kernel
theorem dX1_fallOnce_28 : decode cX1_fallOnce 28 = .ok (.invokestatic 60, 3) := by decide +kernel
theorem dX1_fallOnce_31 : decode cX1_fallOnce 31 = .ok (.dup2, 1) := by decide +kernel
theorem dX1_fallOnce_32 : decode cX1_fallOnce 32 = .ok (.iaload, 1) := by decide +kernel
theorem dX1_fallOnce_33 : decode cX1_fallOnce 33 = .ok (.iload_n 2, 1) := by decide +kernel
theorem dX1_fallOnce_34 : decode cX1_fallOnce 34 = .ok (.iadd, 1) := by decide +kernel
theorem dX1_fallOnce_35 : decode cX1_fallOnce 35 = .ok (.iastore, 1) := by decide +kernel
theorem dX1_fallOnce_36 : decode cX1_fallOnce 36 = .ok (.iinc 3 1, 3) := by decide +kernel
theorem dX1_fallOnce_39 : decode cX1_fallOnce 39 = .ok (.goto (-21), 3) := by decide +kernel
theorem dX1_fallOnce_42 : decode cX1_fallOnce 42 = .ok (.iinc 1 1, 3) := by decide +kernel
theorem dX1_fallOnce_45 : decode cX1_fallOnce 45 = .ok (.goto (-43), 3) := by decide +kernel
theorem dX1_fallOnce_48 : decode cX1_fallOnce 48 = .ok (.return_, 1) := by decide +kernel
theorem dX1_dropSoWays_0 : decode cX1_dropSoWays 0 = .ok (.iconst 0, 1) := by decide +kernel
theorem dX1_dropSoWays_1 : decode cX1_dropSoWays 1 = .ok (.istore_n 1, 1) := by decide +kernel
theorem dX1_dropSoWays_2 : decode cX1_dropSoWays 2 = .ok (.iload_n 1, 1) := by decide +kernel
theorem dX1_dropSoWays_3 : decode cX1_dropSoWays 3 = .ok (.bipush 40, 2) := by decide +kernel
theorem dX1_dropSoWays_5 : decode cX1_dropSoWays 5 = .ok (.if_icmp .gt 43, 3) := by decide +kernel
theorem dX1_dropSoWays_8 : decode cX1_dropSoWays 8 = .ok (.aload_n 0, 1) := by decide +kernel
theorem dX1_dropSoWays_9 : decode cX1_dropSoWays 9 = .ok (.getfield 12, 3) := by decide +kernel
theorem dX1_dropSoWays_12 : decode cX1_dropSoWays 12 = .ok (.iload_n 1, 1) := by decide +kernel
theorem dX1_dropSoWays_13 : decode cX1_dropSoWays 13 = .ok (.putfield 39, 3) := by decide +kernel
theorem dX1_dropSoWays_16 : decode cX1_dropSoWays 16 = .ok (.aload_n 0, 1) := by decide +kernel
theorem dX1_dropSoWays_17 : decode cX1_dropSoWays 17 = .ok (.getfield 22, 3) := by decide +kernel
theorem dX1_dropSoWays_20 : decode cX1_dropSoWays 20 = .ok (.iload_n 1, 1) := by decide +kernel
theorem dX1_dropSoWays_21 : decode cX1_dropSoWays 21 = .ok (.iaload, 1) := by decide +kernel
theorem dX1_dropSoWays_22 : decode cX1_dropSoWays 22 = .ok (.ifCond .eq 20, 3) := by decide +kernel
theorem dX1_dropSoWays_25 : decode cX1_dropSoWays 25 = .ok (.aload_n 0, 1) := by decide +kernel
theorem dX1_dropSoWays_26 : decode cX1_dropSoWays 26 = .ok (.getfield 12, 3) := by decide +kernel
theorem dX1_dropSoWays_29 : decode cX1_dropSoWays 29 = .ok (.invokevirtual 66, 3) := by decide +kernel
theorem dX1_dropSoWays_32 : decode cX1_dropSoWays 32 = .ok (.ifCond .eq 10, 3) := by decide +kernel
theorem dX1_dropSoWays_35 : decode cX1_dropSoWays 35 = .ok (.aload_n 0, 1) := by decide +kernel
theorem dX1_dropSoWays_36 : decode cX1_dropSoWays 36 = .ok (.getfield 22, 3) := by decide +kernel
theorem dX1_dropSoWays_39 : decode cX1_dropSoWays 39 = .ok (.iload_n 1, 1) := by decide +kernel
theorem dX1_dropSoWays_40 : decode cX1_dropSoWays 40 = .ok (.iconst 0, 1) := by decide +kernel
theorem dX1_dropSoWays_41 : decode cX1_dropSoWays 41 = .ok (.iastore, 1) := by decide +kernel
theorem dX1_dropSoWays_42 : decode cX1_dropSoWays 42 = .ok (.iinc 1 1, 3) := by decide +kernel
theorem dX1_dropSoWays_45 : decode cX1_dropSoWays 45 = .ok (.goto (-43), 3) := by decide +kernel
theorem dX1_dropSoWays_48 : decode cX1_dropSoWays 48 = .ok (.return_, 1) := by decide +kernel
theorem dX1_likely_0 : decode cX1_likely 0 = .ok (.iconst 0, 1) := by decide +kernel
theorem dX1_likely_1 : decode cX1_likely 1 = .ok (.istore_n 1, 1) := by decide +kernel
theorem dX1_likely_2 : decode cX1_likely 2 = .ok (.iconst 0, 1) := by decide +kernel
theorem dX1_likely_3 : decode cX1_likely 3 = .ok (.istore_n 2, 1) := by decide +kernel
theorem dX1_likely_4 : decode cX1_likely 4 = .ok (.iload_n 2, 1) := by decide +kernel
theorem dX1_likely_5 : decode cX1_likely 5 = .ok (.bipush 40, 2) := by decide +kernel
theorem dX1_likely_7 : decode cX1_likely 7 = .ok (.if_icmp .gt 18, 3) := by decide +kernel
theorem dX1_likely_10 : decode cX1_likely 10 = .ok (.iload_n 1, 1) := by decide +kernel
theorem dX1_likely_11 : decode cX1_likely 11 = .ok (.aload_n 0, 1) := by decide +kernel
theorem dX1_likely_12 : decode cX1_likely 12 = .ok (.getfield 22, 3) := by decide +kernel
theorem dX1_likely_15 : decode cX1_likely 15 = .ok (.iload_n 2, 1) := by decide +kernel
theorem dX1_likely_16 : decode cX1_likely 16 = .ok (.iaload, 1) := by decide +kernel
theorem dX1_likely_17 : decode cX1_likely 17 = .ok (.iadd, 1) := by decide +kernel
theorem dX1_likely_18 : decode cX1_likely 18 = .ok (.istore_n 1, 1) := by decide +kernel
theorem dX1_likely_19 : decode cX1_likely 19 = .ok (.iinc 2 1, 3) := by decide +kernel
theorem dX1_likely_22 : decode cX1_likely 22 = .ok (.goto (-18), 3) := by decide +kernel
theorem dX1_likely_25 : decode cX1_likely 25 = .ok (.aload_n 0, 1) := by decide +kernel
theorem dX1_likely_26 : decode cX1_likely 26 = .ok (.getfield 25, 3) := by decide +kernel
theorem dX1_likely_29 : decode cX1_likely 29 = .ok (.iconst 1, 1) := by decide +kernel
theorem dX1_likely_30 : decode cX1_likely 30 = .ok (.if_icmp .ge 7, 3) := by decide +kernel
theorem dX1_likely_33 : decode cX1_likely 33 = .ok (.iconst 0, 1) := by decide +kernel
theorem dX1_likely_34 : decode cX1_likely 34 = .ok (.goto 21, 3) := by decide +kernel
theorem dX1_likely_37 : decode cX1_likely 37 = .ok (.aload_n 0, 1) := by decide +kernel
theorem dX1_likely_38 : decode cX1_likely 38 = .ok (.getfield 25, 3) := by decide +kernel
theorem dX1_likely_41 : decode cX1_likely 41 = .ok (.iload_n 1, 1) := by decide +kernel
theorem dX1_likely_42 : decode cX1_likely 42 = .ok (.isub, 1) := by decide +kernel
theorem dX1_likely_43 : decode cX1_likely 43 = .ok (.i2l, 1) := by decide +kernel
theorem dX1_likely_44 : decode cX1_likely 44 = .ok (.ldc2_w 70, 3) := by decide +kernel
theorem dX1_likely_47 : decode cX1_likely 47 = .ok (.lmul, 1) := by decide +kernel
theorem dX1_likely_48 : decode cX1_likely 48 = .ok (.aload_n 0, 1) := by decide +kernel
theorem dX1_likely_49 : decode cX1_likely 49 = .ok (.getfield 25, 3) := by decide +kernel
theorem dX1_likely_52 : decode cX1_likely 52 = .ok (.i2l, 1) := by decide +kernel
theorem dX1_likely_53 : decode cX1_likely 53 = .ok (.ldiv, 1) := by decide +kernel
theorem dX1_likely_54 : decode cX1_likely 54 = .ok (.l2i, 1) := by decide +kernel
theorem dX1_likely_55 : decode cX1_likely 55 = .ok (.ireturn, 1) := by decide +kernel
theorem dX1_meanAir_0 : decode cX1_meanAir 0 = .ok (.lconst 0, 1) := by decide +kernel
theorem dX1_meanAir_1 : decode cX1_meanAir 1 = .ok (.lstore_n 1, 1) := by decide +kernel
theorem dX1_meanAir_2 : decode cX1_meanAir 2 = .ok (.iconst 0, 1) := by decide +kernel
theorem dX1_meanAir_3 : decode cX1_meanAir 3 = .ok (.istore_n 3, 1) := by decide +kernel
theorem dX1_meanAir_4 : decode cX1_meanAir 4 = .ok (.iload_n 3, 1) := by decide +kernel
theorem dX1_meanAir_5 : decode cX1_meanAir 5 = .ok (.bipush 40, 2) := by decide +kernel
theorem dX1_meanAir_7 : decode cX1_meanAir 7 = .ok (.if_icmp .gt 22, 3) := by decide +kernel
theorem dX1_meanAir_10 : decode cX1_meanAir 10 = .ok (.lload_n 1, 1) := by decide +kernel
theorem dX1_meanAir_11 : decode cX1_meanAir 11 = .ok (.iload_n 3, 1) := by decide +kernel
theorem dX1_meanAir_12 : decode cX1_meanAir 12 = .ok (.i2l, 1) := by decide +kernel
theorem dX1_meanAir_13 : decode cX1_meanAir 13 = .ok (.aload_n 0, 1) := by decide +kernel
theorem dX1_meanAir_14 : decode cX1_meanAir 14 = .ok (.getfield 18, 3) := by decide +kernel
theorem dX1_meanAir_17 : decode cX1_meanAir 17 = .ok (.iload_n 3, 1) := by decide +kernel
theorem dX1_meanAir_18 : decode cX1_meanAir 18 = .ok (.iaload, 1) := by decide +kernel
theorem dX1_meanAir_19 : decode cX1_meanAir 19 = .ok (.i2l, 1) := by decide +kernel
theorem dX1_meanAir_20 : decode cX1_meanAir 20 = .ok (.lmul, 1) := by decide +kernel
theorem dX1_meanAir_21 : decode cX1_meanAir 21 = .ok (.ladd, 1) := by decide +kernel
theorem dX1_meanAir_22 : decode cX1_meanAir 22 = .ok (.lstore_n 1, 1) := by decide +kernel
theorem dX1_meanAir_23 : decode cX1_meanAir 23 = .ok (.iinc 3 1, 3) := by decide +kernel
theorem dX1_meanAir_26 : decode cX1_meanAir 26 = .ok (.goto (-22), 3) := by decide +kernel
theorem dX1_meanAir_29 : decode cX1_meanAir 29 = .ok (.aload_n 0, 1) := by decide +kernel
theorem dX1_meanAir_30 : decode cX1_meanAir 30 = .ok (.getfield 25, 3) := by decide +kernel
theorem dX1_meanAir_33 : decode cX1_meanAir 33 = .ok (.iconst 1, 1) := by decide +kernel
theorem dX1_meanAir_34 : decode cX1_meanAir 34 = .ok (.if_icmp .ge 7, 3) := by decide +kernel
theorem dX1_meanAir_37 : decode cX1_meanAir 37 = .ok (.iconst 0, 1) := by decide +kernel
theorem dX1_meanAir_38 : decode cX1_meanAir 38 = .ok (.goto 15, 3) := by decide +kernel
theorem dX1_meanAir_41 : decode cX1_meanAir 41 = .ok (.lload_n 1, 1) := by decide +kernel
theorem dX1_meanAir_42 : decode cX1_meanAir 42 = .ok (.ldc2_w 72, 3) := by decide +kernel
theorem dX1_meanAir_45 : decode cX1_meanAir 45 = .ok (.lmul, 1) := by decide +kernel
theorem dX1_meanAir_46 : decode cX1_meanAir 46 = .ok (.aload_n 0, 1) := by decide +kernel
theorem dX1_meanAir_47 : decode cX1_meanAir 47 = .ok (.getfield 25, 3) := by decide +kernel
theorem dX1_meanAir_50 : decode cX1_meanAir 50 = .ok (.i2l, 1) := by decide +kernel
theorem dX1_meanAir_51 : decode cX1_meanAir 51 = .ok (.ldiv, 1) := by decide +kernel
theorem dX1_meanAir_52 : decode cX1_meanAir 52 = .ok (.l2i, 1) := by decide +kernel
theorem dX1_meanAir_53 : decode cX1_meanAir 53 = .ok (.ireturn, 1) := by decide +kernel
theorem dX2_init_0 : decode cX2_init 0 = .ok (.aload_n 0, 1) := by decide +kernel
theorem dX2_init_1 : decode cX2_init 1 = .ok (.invokespecial 3, 3) := by decide +kernel
theorem dX2_init_4 : decode cX2_init 4 = .ok (.aload_n 0, 1) := by decide +kernel
theorem dX2_init_5 : decode cX2_init 5 = .ok (.bipush 8, 2) := by decide +kernel
theorem dX2_init_7 : decode cX2_init 7 = .ok (.newarray .int, 2) := by decide +kernel
theorem dX2_init_9 : decode cX2_init 9 = .ok (.putfield 9, 3) := by decide +kernel
theorem dX2_init_12 : decode cX2_init 12 = .ok (.aload_n 0, 1) := by decide +kernel
theorem dX2_init_13 : decode cX2_init 13 = .ok (.bipush 8, 2) := by decide +kernel
theorem dX2_init_15 : decode cX2_init 15 = .ok (.newarray .int, 2) := by decide +kernel
theorem dX2_init_17 : decode cX2_init 17 = .ok (.putfield 15, 3) := by decide +kernel
theorem dX2_init_20 : decode cX2_init 20 = .ok (.aload_n 0, 1) := by decide +kernel
theorem dX2_init_21 : decode cX2_init 21 = .ok (.bipush 8, 2) := by decide +kernel
theorem dX2_init_23 : decode cX2_init 23 = .ok (.newarray .int, 2) := by decide +kernel
theorem dX2_init_25 : decode cX2_init 25 = .ok (.putfield 18, 3) := by decide +kernel
theorem dX2_init_28 : decode cX2_init 28 = .ok (.aload_n 0, 1) := by decide +kernel
theorem dX2_init_29 : decode cX2_init 29 = .ok (.bipush 8, 2) := by decide +kernel
theorem dX2_init_31 : decode cX2_init 31 = .ok (.newarray .int, 2) := by decide +kernel
theorem dX2_init_33 : decode cX2_init 33 = .ok (.putfield 21, 3) := by decide +kernel
theorem dX2_init_36 : decode cX2_init 36 = .ok (.aload_n 0, 1) := by decide +kernel
theorem dX2_init_37 : decode cX2_init 37 = .ok (.bipush 8, 2) := by decide +kernel
theorem dX2_init_39 : decode cX2_init 39 = .ok (.newarray .int, 2) := by decide +kernel
theorem dX2_init_41 : decode cX2_init 41 = .ok (.putfield 24, 3) := by decide +kernel
theorem dX2_init_44 : decode cX2_init 44 = .ok (.aload_n 0, 1) := by decide +kernel
theorem dX2_init_45 : decode cX2_init 45 = .ok (.iconst 0, 1) := by decide +kernel
theorem dX2_init_46 : decode cX2_init 46 = .ok (.putfield 27, 3) := by decide +kernel
theorem dX2_init_49 : decode cX2_init 49 = .ok (.aload_n 0, 1) := by decide +kernel
theorem dX2_init_50 : decode cX2_init 50 = .ok (.bipush 25, 2) := by decide +kernel
theorem dX2_init_52 : decode cX2_init 52 = .ok (.putfield 31, 3) := by decide +kernel
theorem dX2_init_55 : decode cX2_init 55 = .ok (.aload_n 0, 1) := by decide +kernel
theorem dX2_init_56 : decode cX2_init 56 = .ok (.iconst 1, 1) := by decide +kernel
theorem dX2_init_57 : decode cX2_init 57 = .ok (.putfield 34, 3) := by decide +kernel
theorem dX2_init_60 : decode cX2_init 60 = .ok (.aload_n 0, 1) := by decide +kernel
theorem dX2_init_61 : decode cX2_init 61 = .ok (.iconst 0, 1) := by decide +kernel
theorem dX2_init_62 : decode cX2_init 62 = .ok (.putfield 37, 3) := by decide +kernel
theorem dX2_init_65 : decode cX2_init 65 = .ok (.aload_n 0, 1) := by decide +kernel
theorem dX2_init_66 : decode cX2_init 66 = .ok (.iconst (-1), 1) := by decide +kernel
theorem dX2_init_67 : decode cX2_init 67 = .ok (.putfield 40, 3) := by decide +kernel
theorem dX2_init_70 : decode cX2_init 70 = .ok (.aload_n 0, 1) := by decide +kernel
theorem dX2_init_71 : decode cX2_init 71 = .ok (.iconst 2, 1) := by decide +kernel
theorem dX2_init_72 : decode cX2_init 72 = .ok (.putfield 43, 3) := by decide +kernel
theorem dX2_init_75 : decode cX2_init 75 = .ok (.aload_n 0, 1) := by decide +kernel
theorem dX2_init_76 : decode cX2_init 76 = .ok (.iconst 1, 1) := by decide +kernel
theorem dX2_init_77 : decode cX2_init 77 = .ok (.putfield 46, 3) := by decide +kernel
theorem dX2_init_80 : decode cX2_init 80 = .ok (.aload_n 0, 1) := by decide +kernel
theorem dX2_init_81 : decode cX2_init 81 = .ok (.iconst 0, 1) := by decide +kernel
theorem dX2_init_82 : decode cX2_init 82 = .ok (.putfield 49, 3) := by decide +kernel
theorem dX2_init_85 : decode cX2_init 85 = .ok (.aload_n 0, 1) := by decide +kernel
theorem dX2_init_86 : decode cX2_init 86 = .ok (.iconst (-1), 1) := by decide +kernel
theorem dX2_init_87 : decode cX2_init 87 = .ok (.putfield 52, 3) := by decide +kernel
theorem dX2_init_90 : decode cX2_init 90 = .ok (.return_, 1) := by decide +kernel
theorem dX2_load_0 : decode cX2_load 0 = .ok (.aload_n 1, 1) := by decide +kernel
theorem dX2_load_1 : decode cX2_load 1 = .ok (.getfield 9, 3) := by decide +kernel
theorem dX2_load_4 : decode cX2_load 4 = .ok (.iconst 0, 1) := by decide +kernel
theorem dX2_load_5 : decode cX2_load 5 = .ok (.aload_n 0, 1) := by decide +kernel
theorem dX2_load_6 : decode cX2_load 6 = .ok (.getfield 9, 3) := by decide +kernel
theorem dX2_load_9 : decode cX2_load 9 = .ok (.iconst 0, 1) := by decide +kernel
theorem dX2_load_10 : decode cX2_load 10 = .ok (.bipush 8, 2) := by decide +kernel
theorem dX2_load_12 : decode cX2_load 12 = .ok (.invokestatic 55, 3) := by decide +kernel
theorem dX2_load_15 : decode cX2_load 15 = .ok (.aload_n 1, 1) := by decide +kernel
theorem dX2_load_16 : decode cX2_load 16 = .ok (.getfield 15, 3) := by decide +kernel
theorem dX2_load_19 : decode cX2_load 19 = .ok (.iconst 0, 1) := by decide +kernel
theorem dX2_load_20 : decode cX2_load 20 = .ok (.aload_n 0, 1) := by decide +kernel
theorem dX2_load_21 : decode cX2_load 21 = .ok (.getfield 15, 3) := by decide +kernel
theorem dX2_load_24 : decode cX2_load 24 = .ok (.iconst 0, 1) := by decide +kernel
theorem dX2_load_25 : decode cX2_load 25 = .ok (.bipush 8, 2) := by decide +kernel
theorem dX2_load_27 : decode cX2_load 27 = .ok (.invokestatic 55, 3) := by decide +kernel
theorem dX2_load_30 : decode cX2_load 30 = .ok (.aload_n 1, 1) := by decide +kernel
theorem dX2_load_31 : decode cX2_load 31 = .ok (.getfield 18, 3) := by decide +kernel
theorem dX2_load_34 : decode cX2_load 34 = .ok (.iconst 0, 1) := by decide +kernel
theorem dX2_load_35 : decode cX2_load 35 = .ok (.aload_n 0, 1) := by decide +kernel
theorem dX2_load_36 : decode cX2_load 36 = .ok (.getfield 18, 3) := by decide +kernel
theorem dX2_load_39 : decode cX2_load 39 = .ok (.iconst 0, 1) := by decide +kernel
theorem dX2_load_40 : decode cX2_load 40 = .ok (.bipush 8, 2) := by decide +kernel
theorem dX2_load_42 : decode cX2_load 42 = .ok (.invokestatic 55, 3) := by decide +kernel
theorem dX2_load_45 : decode cX2_load 45 = .ok (.aload_n 1, 1) := by decide +kernel
theorem dX2_load_46 : decode cX2_load 46 = .ok (.getfield 21, 3) := by decide +kernel
theorem dX2_load_49 : decode cX2_load 49 = .ok (.iconst 0, 1) := by decide +kernel
theorem dX2_load_50 : decode cX2_load 50 = .ok (.aload_n 0, 1) := by decide +kernel
theorem dX2_load_51 : decode cX2_load 51 = .ok (.getfield 21, 3) := by decide +kernel
theorem dX2_load_54 : decode cX2_load 54 = .ok (.iconst 0, 1) := by decide +kernel
theorem dX2_load_55 : decode cX2_load 55 = .ok (.bipush 8, 2) := by decide +kernel
theorem dX2_load_57 : decode cX2_load 57 = .ok (.invokestatic 55, 3) := by decide +kernel
theorem dX2_load_60 : decode cX2_load 60 = .ok (.aload_n 1, 1) := by decide +kernel
theorem dX2_load_61 : decode cX2_load 61 = .ok (.getfield 24, 3) := by decide +kernel
theorem dX2_load_64 : decode cX2_load 64 = .ok (.iconst 0, 1) := by decide +kernel
theorem dX2_load_65 : decode cX2_load 65 = .ok (.aload_n 0, 1) := by decide +kernel
theorem dX2_load_66 : decode cX2_load 66 = .ok (.getfield 24, 3) := by decide +kernel
theorem dX2_load_69 : decode cX2_load 69 = .ok (.iconst 0, 1) := by decide +kernel
theorem dX2_load_70 : decode cX2_load 70 = .ok (.bipush 8, 2) := by decide +kernel
theorem dX2_load_72 : decode cX2_load 72 = .ok (.invokestatic 55, 3) := by decide +kernel
theorem dX2_load_75 : decode cX2_load 75 = .ok (.aload_n 0, 1) := by decide +kernel
theorem dX2_load_76 : decode cX2_load 76 = .ok (.aload_n 1, 1) := by decide +kernel
theorem dX2_load_77 : decode cX2_load 77 = .ok (.getfield 27, 3) := by decide +kernel
theorem dX2_load_80 : decode cX2_load 80 = .ok (.putfield 27, 3) := by decide +kernel
theorem dX2_load_83 : decode cX2_load 83 = .ok (.aload_n 0, 1) := by decide +kernel
theorem dX2_load_84 : decode cX2_load 84 = .ok (.aload_n 1, 1) := by decide +kernel
theorem dX2_load_85 : decode cX2_load 85 = .ok (.getfield 31, 3) := by decide +kernel
theorem dX2_load_88 : decode cX2_load 88 = .ok (.putfield 31, 3) := by decide +kernel
theorem dX2_load_91 : decode cX2_load 91 = .ok (.aload_n 0, 1) := by decide +kernel
theorem dX2_load_92 : decode cX2_load 92 = .ok (.aload_n 1, 1) := by decide +kernel
theorem dX2_load_93 : decode cX2_load 93 = .ok (.getfield 34, 3) := by decide +kernel
theorem dX2_load_96 : decode cX2_load 96 = .ok (.putfield 34, 3) := by decide +kernel
theorem dX2_load_99 : decode cX2_load 99 = .ok (.aload_n 0, 1) := by decide +kernel
theorem dX2_load_100 : decode cX2_load 100 = .ok (.aload_n 1, 1) := by decide +kernel
theorem dX2_load_101 : decode cX2_load 101 = .ok (.getfield 37, 3) := by decide +kernel
theorem dX2_load_104 : decode cX2_load 104 = .ok (.putfield 37, 3) := by decide +kernel
theorem dX2_load_107 : decode cX2_load 107 = .ok (.aload_n 0, 1) := by decide +kernel
theorem dX2_load_108 : decode cX2_load 108 = .ok (.aload_n 1, 1) := by decide +kernel
theorem dX2_load_109 : decode cX2_load 109 = .ok (.getfield 40, 3) := by decide +kernel
theorem dX2_load_112 : decode cX2_load 112 = .ok (.putfield 40, 3) := by decide +kernel
theorem dX2_load_115 : decode cX2_load 115 = .ok (.aload_n 0, 1) := by decide +kernel
theorem dX2_load_116 : decode cX2_load 116 = .ok (.aload_n 1, 1) := by decide +kernel
theorem dX2_load_117 : decode cX2_load 117 = .ok (.getfield 43, 3) := by decide +kernel
theorem dX2_load_120 : decode cX2_load 120 = .ok (.putfield 43, 3) := by decide +kernel
theorem dX2_load_123 : decode cX2_load 123 = .ok (.aload_n 0, 1) := by decide +kernel
theorem dX2_load_124 : decode cX2_load 124 = .ok (.aload_n 1, 1) := by decide +kernel
theorem dX2_load_125 : decode cX2_load 125 = .ok (.getfield 46, 3) := by decide +kernel
theorem dX2_load_128 : decode cX2_load 128 = .ok (.putfield 46, 3) := by decide +kernel
theorem dX2_load_131 : decode cX2_load 131 = .ok (.aload_n 0, 1) := by decide +kernel
theorem dX2_load_132 : decode cX2_load 132 = .ok (.aload_n 1, 1) := by decide +kernel
theorem dX2_load_133 : decode cX2_load 133 = .ok (.getfield 49, 3) := by decide +kernel
theorem dX2_load_136 : decode cX2_load 136 = .ok (.putfield 49, 3) := by decide +kernel
theorem dX2_load_139 : decode cX2_load 139 = .ok (.aload_n 0, 1) := by decide +kernel
theorem dX2_load_140 : decode cX2_load 140 = .ok (.aload_n 1, 1) := by decide +kernel
theorem dX2_load_141 : decode cX2_load 141 = .ok (.getfield 52, 3) := by decide +kernel
theorem dX2_load_144 : decode cX2_load 144 = .ok (.putfield 52, 3) := by decide +kernel
theorem dX2_load_147 : decode cX2_load 147 = .ok (.return_, 1) := by decide +kernel
theorem dX2_hasOne_0 : decode cX2_hasOne 0 = .ok (.iload_n 1, 1) := by decide +kernel
theorem dX2_hasOne_1 : decode cX2_hasOne 1 = .ok (.ifCond .lt 15, 3) := by decide +kernel
theorem dX2_hasOne_4 : decode cX2_hasOne 4 = .ok (.iload_n 1, 1) := by decide +kernel
theorem dX2_hasOne_5 : decode cX2_hasOne 5 = .ok (.aload_n 0, 1) := by decide +kernel
theorem dX2_hasOne_6 : decode cX2_hasOne 6 = .ok (.getfield 27, 3) := by decide +kernel
theorem dX2_hasOne_9 : decode cX2_hasOne 9 = .ok (.if_icmp .ge 7, 3) := by decide +kernel
theorem dX2_hasOne_12 : decode cX2_hasOne 12 = .ok (.iconst 1, 1) := by decide +kernel
theorem dX2_hasOne_13 : decode cX2_hasOne 13 = .ok (.goto 4, 3) := by decide +kernel
theorem dX2_hasOne_16 : decode cX2_hasOne 16 = .ok (.iconst 0, 1) := by decide +kernel
theorem dX2_hasOne_17 : decode cX2_hasOne 17 = .ok (.ireturn, 1) := by decide +kernel
theorem dX2_isFull_0 : decode cX2_isFull 0 = .ok (.aload_n 0, 1) := by decide +kernel
theorem dX2_isFull_1 : decode cX2_isFull 1 = .ok (.getfield 27, 3) := by decide +kernel
theorem dX2_isFull_4 : decode cX2_isFull 4 = .ok (.bipush 8, 2) := by decide +kernel
theorem dX2_isFull_6 : decode cX2_isFull 6 = .ok (.if_icmp .lt 7, 3) := by decide +kernel
theorem dX2_isFull_9 : decode cX2_isFull 9 = .ok (.iconst 1, 1) := by decide +kernel
theorem dX2_isFull_10 : decode cX2_isFull 10 = .ok (.goto 4, 3) := by decide +kernel
theorem dX2_isFull_13 : decode cX2_isFull 13 = .ok (.iconst 0, 1) := by decide +kernel
theorem dX2_isFull_14 : decode cX2_isFull 14 = .ok (.ireturn, 1) := by decide +kernel
theorem dX2_settle_0 : decode cX2_settle 0 = .ok (.aload_n 0, 1) := by decide +kernel
theorem dX2_settle_1 : decode cX2_settle 1 = .ok (.invokevirtual 61, 3) := by decide +kernel
theorem dX2_settle_4 : decode cX2_settle 4 = .ok (.ifCond .eq 5, 3) := by decide +kernel
theorem dX2_settle_7 : decode cX2_settle 7 = .ok (.iconst (-1), 1) := by decide +kernel
theorem dX2_settle_8 : decode cX2_settle 8 = .ok (.ireturn, 1) := by decide +kernel
theorem dX2_settle_9 : decode cX2_settle 9 = .ok (.aload_n 0, 1) := by decide +kernel
theorem dX2_settle_10 : decode cX2_settle 10 = .ok (.dup, 1) := by decide +kernel
theorem dX2_settle_11 : decode cX2_settle 11 = .ok (.getfield 27, 3) := by decide +kernel
theorem dX2_settle_14 : decode cX2_settle 14 = .ok (.dup_x1, 1) := by decide +kernel
theorem dX2_settle_15 : decode cX2_settle 15 = .ok (.iconst 1, 1) := by decide +kernel
theorem dX2_settle_16 : decode cX2_settle 16 = .ok (.iadd, 1) := by decide +kernel
theorem dX2_settle_17 : decode cX2_settle 17 = .ok (.putfield 27, 3) := by decide +kernel
theorem dX2_settle_20 : decode cX2_settle 20 = .ok (.istore 4, 2) := by decide +kernel
theorem dX2_settle_22 : decode cX2_settle 22 = .ok (.aload_n 0, 1) := by decide +kernel
theorem dX2_settle_23 : decode cX2_settle 23 = .ok (.getfield 9, 3) := by decide +kernel
theorem dX2_settle_26 : decode cX2_settle 26 = .ok (.iload 4, 2) := by decide +kernel
theorem dX2_settle_28 : decode cX2_settle 28 = .ok (.iload_n 1, 1) := by decide +kernel
theorem dX2_settle_29 : decode cX2_settle 29 = .ok (.iastore, 1) := by decide +kernel
theorem dX2_settle_30 : decode cX2_settle 30 = .ok (.aload_n 0, 1) := by decide +kernel
theorem dX2_settle_31 : decode cX2_settle 31 = .ok (.getfield 15, 3) := by decide +kernel
theorem dX2_settle_34 : decode cX2_settle 34 = .ok (.iload 4, 2) := by decide +kernel
theorem dX2_settle_36 : decode cX2_settle 36 = .ok (.iload_n 2, 1) := by decide +kernel
theorem dX2_settle_37 : decode cX2_settle 37 = .ok (.iastore, 1) := by decide +kernel
theorem dX2_settle_38 : decode cX2_settle 38 = .ok (.aload_n 0, 1) := by decide +kernel
theorem dX2_settle_39 : decode cX2_settle 39 = .ok (.getfield 18, 3) := by decide +kernel
theorem dX2_settle_42 : decode cX2_settle 42 = .ok (.iload 4, 2) := by decide +kernel
theorem dX2_settle_44 : decode cX2_settle 44 = .ok (.iload_n 3, 1) := by decide +kernel
theorem dX2_settle_45 : decode cX2_settle 45 = .ok (.iastore, 1) := by decide +kernel
theorem dX2_settle_46 : decode cX2_settle 46 = .ok (.aload_n 0, 1) := by decide +kernel
theorem dX2_settle_47 : decode cX2_settle 47 = .ok (.getfield 21, 3) := by decide +kernel
theorem dX2_settle_50 : decode cX2_settle 50 = .ok (.iload 4, 2) := by decide +kernel
theorem dX2_settle_52 : decode cX2_settle 52 = .ok (.iconst 0, 1) := by decide +kernel
theorem dX2_settle_53 : decode cX2_settle 53 = .ok (.iastore, 1) := by decide +kernel
theorem dX2_settle_54 : decode cX2_settle 54 = .ok (.aload_n 0, 1) := by decide +kernel
theorem dX2_settle_55 : decode cX2_settle 55 = .ok (.getfield 24, 3) := by decide +kernel
theorem dX2_settle_58 : decode cX2_settle 58 = .ok (.iload 4, 2) := by decide +kernel
theorem dX2_settle_60 : decode cX2_settle 60 = .ok (.iconst 0, 1) := by decide +kernel
theorem dX2_settle_61 : decode cX2_settle 61 = .ok (.iastore, 1) := by decide +kernel
theorem dX2_settle_62 : decode cX2_settle 62 = .ok (.aload_n 0, 1) := by decide +kernel
theorem dX2_settle_63 : decode cX2_settle 63 = .ok (.dup, 1) := by decide +kernel
theorem dX2_settle_64 : decode cX2_settle 64 = .ok (.getfield 49, 3) := by decide +kernel
theorem dX2_settle_67 : decode cX2_settle 67 = .ok (.iload_n 1, 1) := by decide +kernel
theorem dX2_settle_68 : decode cX2_settle 68 = .ok (.iconst 4, 1) := by decide +kernel
theorem dX2_settle_69 : decode cX2_settle 69 = .ok (.if_icmp .ne 7, 3) := by decide +kernel
theorem dX2_settle_72 : decode cX2_settle 72 = .ok (.iconst 1, 1) := by decide +kernel
theorem dX2_settle_73 : decode cX2_settle 73 = .ok (.goto 4, 3) := by decide +kernel
theorem dX2_settle_76 : decode cX2_settle 76 = .ok (.iconst 0, 1) := by decide +kernel
theorem dX2_settle_77 : decode cX2_settle 77 = .ok (.invokestatic 65, 3) := by decide +kernel
theorem dX2_settle_80 : decode cX2_settle 80 = .ok (.iadd, 1) := by decide +kernel
theorem dX2_settle_81 : decode cX2_settle 81 = .ok (.putfield 49, 3) := by decide +kernel
theorem dX2_settle_84 : decode cX2_settle 84 = .ok (.iload 4, 2) := by decide +kernel
theorem dX2_settle_86 : decode cX2_settle 86 = .ok (.ireturn, 1) := by decide +kernel
theorem dX2_change_0 : decode cX2_change 0 = .ok (.iload_n 1, 1) := by decide +kernel
theorem dX2_change_1 : decode cX2_change 1 = .ok (.tableswitch 66 0 2 #[27, 40, 53], 27) := by decide +kernel
theorem dX2_change_28 : decode cX2_change 28 = .ok (.aload_n 0, 1) := by decide +kernel
theorem dX2_change_29 : decode cX2_change 29 = .ok (.getfield 31, 3) := by decide +kernel
theorem dX2_change_32 : decode cX2_change 32 = .ok (.istore_n 3, 1) := by decide +kernel
theorem dX2_change_33 : decode cX2_change 33 = .ok (.aload_n 0, 1) := by decide +kernel
theorem dX2_change_34 : decode cX2_change 34 = .ok (.iload_n 2, 1) := by decide +kernel
theorem dX2_change_35 : decode cX2_change 35 = .ok (.putfield 31, 3) := by decide +kernel
theorem dX2_change_38 : decode cX2_change 38 = .ok (.goto 39, 3) := by decide +kernel
theorem dX2_change_41 : decode cX2_change 41 = .ok (.aload_n 0, 1) := by decide +kernel
theorem dX2_change_42 : decode cX2_change 42 = .ok (.getfield 34, 3) := by decide +kernel
theorem dX2_change_45 : decode cX2_change 45 = .ok (.istore_n 3, 1) := by decide +kernel
theorem dX2_change_46 : decode cX2_change 46 = .ok (.aload_n 0, 1) := by decide +kernel
theorem dX2_change_47 : decode cX2_change 47 = .ok (.iload_n 2, 1) := by decide +kernel
theorem dX2_change_48 : decode cX2_change 48 = .ok (.putfield 34, 3) := by decide +kernel
theorem dX2_change_51 : decode cX2_change 51 = .ok (.goto 26, 3) := by decide +kernel
theorem dX2_change_54 : decode cX2_change 54 = .ok (.aload_n 0, 1) := by decide +kernel
theorem dX2_change_55 : decode cX2_change 55 = .ok (.getfield 37, 3) := by decide +kernel
theorem dX2_change_58 : decode cX2_change 58 = .ok (.istore_n 3, 1) := by decide +kernel
theorem dX2_change_59 : decode cX2_change 59 = .ok (.aload_n 0, 1) := by decide +kernel
theorem dX2_change_60 : decode cX2_change 60 = .ok (.iload_n 2, 1) := by decide +kernel
theorem dX2_change_61 : decode cX2_change 61 = .ok (.putfield 37, 3) := by decide +kernel
theorem dX2_change_64 : decode cX2_change 64 = .ok (.goto 13, 3) := by decide +kernel
theorem dX2_change_67 : decode cX2_change 67 = .ok (.aload_n 0, 1) := by decide +kernel
theorem dX2_change_68 : decode cX2_change 68 = .ok (.getfield 43, 3) := by decide +kernel
theorem dX2_change_71 : decode cX2_change 71 = .ok (.istore_n 3, 1) := by decide +kernel
theorem dX2_change_72 : decode cX2_change 72 = .ok (.aload_n 0, 1) := by decide +kernel
theorem dX2_change_73 : decode cX2_change 73 = .ok (.iload_n 2, 1) := by decide +kernel
theorem dX2_change_74 : decode cX2_change 74 = .ok (.putfield 43, 3) := by decide +kernel
theorem dX2_change_77 : decode cX2_change 77 = .ok (.iload_n 3, 1) := by decide +kernel
theorem dX2_change_78 : decode cX2_change 78 = .ok (.ireturn, 1) := by decide +kernel
theorem dX2_leaveOut_0 : decode cX2_leaveOut 0 = .ok (.aload_n 0, 1) := by decide +kernel
theorem dX2_leaveOut_1 : decode cX2_leaveOut 1 = .ok (.iload_n 1, 1) := by decide +kernel
theorem dX2_leaveOut_2 : decode cX2_leaveOut 2 = .ok (.invokevirtual 69, 3) := by decide +kernel
theorem dX2_leaveOut_5 : decode cX2_leaveOut 5 = .ok (.ifCond .eq 43, 3) := by decide +kernel
theorem dX2_leaveOut_8 : decode cX2_leaveOut 8 = .ok (.aload_n 0, 1) := by decide +kernel
theorem dX2_leaveOut_9 : decode cX2_leaveOut 9 = .ok (.getfield 52, 3) := by decide +kernel
theorem dX2_leaveOut_12 : decode cX2_leaveOut 12 = .ok (.iconst (-1), 1) := by decide +kernel
theorem dX2_leaveOut_13 : decode cX2_leaveOut 13 = .ok (.if_icmp .ne 35, 3) := by decide +kernel
theorem dX2_leaveOut_16 : decode cX2_leaveOut 16 = .ok (.aload_n 0, 1) := by decide +kernel
theorem dX2_leaveOut_17 : decode cX2_leaveOut 17 = .ok (.iload_n 1, 1) := by decide +kernel
theorem dX2_leaveOut_18 : decode cX2_leaveOut 18 = .ok (.putfield 52, 3) := by decide +kernel
theorem dX2_leaveOut_21 : decode cX2_leaveOut 21 = .ok (.aload_n 0, 1) := by decide +kernel
theorem dX2_leaveOut_22 : decode cX2_leaveOut 22 = .ok (.dup, 1) := by decide +kernel
theorem dX2_leaveOut_23 : decode cX2_leaveOut 23 = .ok (.getfield 49, 3) := by decide +kernel
theorem dX2_leaveOut_26 : decode cX2_leaveOut 26 = .ok (.aload_n 0, 1) := by decide +kernel
theorem dX2_leaveOut_27 : decode cX2_leaveOut 27 = .ok (.getfield 9, 3) := by decide +kernel
theorem dX2_leaveOut_30 : decode cX2_leaveOut 30 = .ok (.iload_n 1, 1) := by decide +kernel
theorem dX2_leaveOut_31 : decode cX2_leaveOut 31 = .ok (.iaload, 1) := by decide +kernel
theorem dX2_leaveOut_32 : decode cX2_leaveOut 32 = .ok (.iconst 4, 1) := by decide +kernel
theorem dX2_leaveOut_33 : decode cX2_leaveOut 33 = .ok (.if_icmp .ne 7, 3) := by decide +kernel
theorem dX2_leaveOut_36 : decode cX2_leaveOut 36 = .ok (.iconst 1, 1) := by decide +kernel
theorem dX2_leaveOut_37 : decode cX2_leaveOut 37 = .ok (.goto 4, 3) := by decide +kernel
theorem dX2_leaveOut_40 : decode cX2_leaveOut 40 = .ok (.iconst 0, 1) := by decide +kernel
theorem dX2_leaveOut_41 : decode cX2_leaveOut 41 = .ok (.invokestatic 65, 3) := by decide +kernel
theorem dX2_leaveOut_44 : decode cX2_leaveOut 44 = .ok (.isub, 1) := by decide +kernel
theorem dX2_leaveOut_45 : decode cX2_leaveOut 45 = .ok (.putfield 49, 3) := by decide +kernel
theorem dX2_leaveOut_48 : decode cX2_leaveOut 48 = .ok (.return_, 1) := by decide +kernel
theorem dX2_coldAs_0 : decode cX2_coldAs 0 = .ok (.aload_n 0, 1) := by decide +kernel
theorem dX2_coldAs_1 : decode cX2_coldAs 1 = .ok (.iload_n 2, 1) := by decide +kernel
theorem dX2_coldAs_2 : decode cX2_coldAs 2 = .ok (.invokevirtual 69, 3) := by decide +kernel
theorem dX2_coldAs_5 : decode cX2_coldAs 5 = .ok (.ifCond .ne 5, 3) := by decide +kernel
theorem dX2_coldAs_8 : decode cX2_coldAs 8 = .ok (.iconst 0, 1) := by decide +kernel
theorem dX2_coldAs_9 : decode cX2_coldAs 9 = .ok (.ireturn, 1) := by decide +kernel
theorem dX2_coldAs_10 : decode cX2_coldAs 10 = .ok (.iconst 0, 1) := by decide +kernel
theorem dX2_coldAs_11 : decode cX2_coldAs 11 = .ok (.bipush 40, 2) := by decide +kernel
theorem dX2_coldAs_13 : decode cX2_coldAs 13 = .ok (.aload_n 0, 1) := by decide +kernel
theorem dX2_coldAs_14 : decode cX2_coldAs 14 = .ok (.getfield 31, 3) := by decide +kernel
theorem dX2_coldAs_17 : decode cX2_coldAs 17 = .ok (.isub, 1) := by decide +kernel
theorem dX2_coldAs_18 : decode cX2_coldAs 18 = .ok (.aload_n 0, 1) := by decide +kernel
theorem dX2_coldAs_19 : decode cX2_coldAs 19 = .ok (.getfield 24, 3) := by decide +kernel
theorem dX2_coldAs_22 : decode cX2_coldAs 22 = .ok (.iload_n 2, 1) := by decide +kernel
theorem dX2_coldAs_23 : decode cX2_coldAs 23 = .ok (.iaload, 1) := by decide +kernel
theorem dX2_coldAs_24 : decode cX2_coldAs 24 = .ok (.isub, 1) := by decide +kernel
theorem dX2_coldAs_25 : decode cX2_coldAs 25 = .ok (.invokestatic 73, 3) := by decide +kernel
theorem dX2_coldAs_28 : decode cX2_coldAs 28 = .ok (.istore_n 3, 1) := by decide +kernel
theorem dX2_coldAs_29 : decode cX2_coldAs 29 = .ok (.aload_n 0, 1) := by decide +kernel
theorem dX2_coldAs_30 : decode cX2_coldAs 30 = .ok (.getfield 49, 3) := by decide +kernel
theorem dX2_coldAs_33 : decode cX2_coldAs 33 = .ok (.aload_n 0, 1) := by decide +kernel
theorem dX2_coldAs_34 : decode cX2_coldAs 34 = .ok (.getfield 9, 3) := by decide +kernel
theorem dX2_coldAs_37 : decode cX2_coldAs 37 = .ok (.iload_n 2, 1) := by decide +kernel
theorem dX2_coldAs_38 : decode cX2_coldAs 38 = .ok (.iaload, 1) := by decide +kernel
theorem dX2_coldAs_39 : decode cX2_coldAs 39 = .ok (.iconst 4, 1) := by decide +kernel
theorem dX2_coldAs_40 : decode cX2_coldAs 40 = .ok (.if_icmp .ne 7, 3) := by decide +kernel
theorem dX2_coldAs_43 : decode cX2_coldAs 43 = .ok (.iconst 1, 1) := by decide +kernel
theorem dX2_coldAs_44 : decode cX2_coldAs 44 = .ok (.goto 4, 3) := by decide +kernel
theorem dX2_coldAs_47 : decode cX2_coldAs 47 = .ok (.iconst 0, 1) := by decide +kernel
theorem dX2_coldAs_48 : decode cX2_coldAs 48 = .ok (.if_icmp .le 7, 3) := by decide +kernel
theorem dX2_coldAs_51 : decode cX2_coldAs 51 = .ok (.iconst 1, 1) := by decide +kernel
theorem dX2_coldAs_52 : decode cX2_coldAs 52 = .ok (.goto 4, 3) := by decide +kernel
theorem dX2_coldAs_55 : decode cX2_coldAs 55 = .ok (.iconst 0, 1) := by decide +kernel
theorem dX2_coldAs_56 : decode cX2_coldAs 56 = .ok (.istore 4, 2) := by decide +kernel
theorem dX2_coldAs_58 : decode cX2_coldAs 58 = .ok (.iload_n 1, 1) := by decide +kernel
theorem dX2_coldAs_59 : decode cX2_coldAs 59 = .ok (.tableswitch 117 1 5 #[33, 72, 46, 81, 113], 33) := by decide +kernel
theorem dX2_coldAs_92 : decode cX2_coldAs 92 = .ok (.iconst 0, 1) := by decide +kernel
theorem dX2_coldAs_93 : decode cX2_coldAs 93 = .ok (.iload_n 3, 1) := by decide +kernel
theorem dX2_coldAs_94 : decode cX2_coldAs 94 = .ok (.aload_n 0, 1) := by decide +kernel
theorem dX2_coldAs_95 : decode cX2_coldAs 95 = .ok (.getfield 15, 3) := by decide +kernel
theorem dX2_coldAs_98 : decode cX2_coldAs 98 = .ok (.iload_n 2, 1) := by decide +kernel
theorem dX2_coldAs_99 : decode cX2_coldAs 99 = .ok (.iaload, 1) := by decide +kernel
theorem dX2_coldAs_100 : decode cX2_coldAs 100 = .ok (.isub, 1) := by decide +kernel
theorem dX2_coldAs_101 : decode cX2_coldAs 101 = .ok (.invokestatic 73, 3) := by decide +kernel
theorem dX2_coldAs_104 : decode cX2_coldAs 104 = .ok (.ireturn, 1) := by decide +kernel
theorem dX2_coldAs_105 : decode cX2_coldAs 105 = .ok (.iconst 0, 1) := by decide +kernel
theorem dX2_coldAs_106 : decode cX2_coldAs 106 = .ok (.iconst 0, 1) := by decide +kernel
theorem dX2_coldAs_107 : decode cX2_coldAs 107 = .ok (.iload_n 3, 1) := by decide +kernel
theorem dX2_coldAs_108 : decode cX2_coldAs 108 = .ok (.aload_n 0, 1) := by decide +kernel
theorem dX2_coldAs_109 : decode cX2_coldAs 109 = .ok (.getfield 15, 3) := by decide +kernel
theorem dX2_coldAs_112 : decode cX2_coldAs 112 = .ok (.iload_n 2, 1) := by decide +kernel
theorem dX2_coldAs_113 : decode cX2_coldAs 113 = .ok (.iaload, 1) := by decide +kernel
theorem dX2_coldAs_114 : decode cX2_coldAs 114 = .ok (.isub, 1) := by decide +kernel
theorem dX2_coldAs_115 : decode cX2_coldAs 115 = .ok (.invokestatic 73, 3) := by decide +kernel
theorem dX2_coldAs_118 : decode cX2_coldAs 118 = .ok (.iconst 2, 1) := by decide +kernel
theorem dX2_coldAs_119 : decode cX2_coldAs 119 = .ok (.aload_n 0, 1) := by decide +kernel
theorem dX2_coldAs_120 : decode cX2_coldAs 120 = .ok (.getfield 21, 3) := by decide +kernel
theorem dX2_coldAs_123 : decode cX2_coldAs 123 = .ok (.iload_n 2, 1) := by decide +kernel
theorem dX2_coldAs_124 : decode cX2_coldAs 124 = .ok (.iaload, 1) := by decide +kernel
theorem dX2_coldAs_125 : decode cX2_coldAs 125 = .ok (.imul, 1) := by decide +kernel
theorem dX2_coldAs_126 : decode cX2_coldAs 126 = .ok (.isub, 1) := by decide +kernel
theorem dX2_coldAs_127 : decode cX2_coldAs 127 = .ok (.invokestatic 73, 3) := by decide +kernel
theorem dX2_coldAs_130 : decode cX2_coldAs 130 = .ok (.ireturn, 1) := by decide +kernel
theorem dX2_coldAs_131 : decode cX2_coldAs 131 = .ok (.iload_n 3, 1) := by decide +kernel
theorem dX2_coldAs_132 : decode cX2_coldAs 132 = .ok (.aload_n 0, 1) := by decide +kernel
theorem dX2_coldAs_133 : decode cX2_coldAs 133 = .ok (.getfield 15, 3) := by decide +kernel
theorem dX2_coldAs_136 : decode cX2_coldAs 136 = .ok (.iload_n 2, 1) := by decide +kernel
theorem dX2_coldAs_137 : decode cX2_coldAs 137 = .ok (.iaload, 1) := by decide +kernel
theorem dX2_coldAs_138 : decode cX2_coldAs 138 = .ok (.iadd, 1) := by decide +kernel
theorem dX2_coldAs_139 : decode cX2_coldAs 139 = .ok (.ireturn, 1) := by decide +kernel
theorem dX2_coldAs_140 : decode cX2_coldAs 140 = .ok (.iload 4, 2) := by decide +kernel
theorem dX2_coldAs_142 : decode cX2_coldAs 142 = .ok (.ifCond .eq 21, 3) := by decide +kernel
theorem dX2_coldAs_145 : decode cX2_coldAs 145 = .ok (.iconst 0, 1) := by decide +kernel
theorem dX2_coldAs_146 : decode cX2_coldAs 146 = .ok (.iload_n 3, 1) := by decide +kernel
theorem dX2_coldAs_147 : decode cX2_coldAs 147 = .ok (.aload_n 0, 1) := by decide +kernel
theorem dX2_coldAs_148 : decode cX2_coldAs 148 = .ok (.getfield 15, 3) := by decide +kernel
theorem dX2_coldAs_151 : decode cX2_coldAs 151 = .ok (.iload_n 2, 1) := by decide +kernel
theorem dX2_coldAs_152 : decode cX2_coldAs 152 = .ok (.iaload, 1) := by decide +kernel
theorem dX2_coldAs_153 : decode cX2_coldAs 153 = .ok (.iadd, 1) := by decide +kernel
theorem dX2_coldAs_154 : decode cX2_coldAs 154 = .ok (.bipush 10, 2) := by decide +kernel
theorem dX2_coldAs_156 : decode cX2_coldAs 156 = .ok (.isub, 1) := by decide +kernel
theorem dX2_coldAs_157 : decode cX2_coldAs 157 = .ok (.invokestatic 73, 3) := by decide +kernel
theorem dX2_coldAs_160 : decode cX2_coldAs 160 = .ok (.goto 11, 3) := by decide +kernel
theorem dX2_coldAs_163 : decode cX2_coldAs 163 = .ok (.iload_n 3, 1) := by decide +kernel
theorem dX2_coldAs_164 : decode cX2_coldAs 164 = .ok (.aload_n 0, 1) := by decide +kernel
theorem dX2_coldAs_165 : decode cX2_coldAs 165 = .ok (.getfield 15, 3) := by decide +kernel
theorem dX2_coldAs_168 : decode cX2_coldAs 168 = .ok (.iload_n 2, 1) := by decide +kernel
theorem dX2_coldAs_169 : decode cX2_coldAs 169 = .ok (.iaload, 1) := by decide +kernel
theorem dX2_coldAs_170 : decode cX2_coldAs 170 = .ok (.iadd, 1) := by decide +kernel
theorem dX2_coldAs_171 : decode cX2_coldAs 171 = .ok (.ireturn, 1) := by decide +kernel
theorem dX2_coldAs_172 : decode cX2_coldAs 172 = .ok (.iload_n 3, 1) := by decide +kernel
theorem dX2_coldAs_173 : decode cX2_coldAs 173 = .ok (.iconst 5, 1) := by decide +kernel
theorem dX2_coldAs_174 : decode cX2_coldAs 174 = .ok (.iadd, 1) := by decide +kernel
theorem dX2_coldAs_175 : decode cX2_coldAs 175 = .ok (.ireturn, 1) := by decide +kernel
theorem dX2_coldAs_176 : decode cX2_coldAs 176 = .ok (.iload_n 3, 1) := by decide +kernel
theorem dX2_coldAs_177 : decode cX2_coldAs 177 = .ok (.ireturn, 1) := by decide +kernel
theorem dX2_limitBy_0 : decode cX2_limitBy 0 = .ok (.aload_n 0, 1) := by decide +kernel
theorem dX2_limitBy_1 : decode cX2_limitBy 1 = .ok (.iload_n 2, 1) := by decide +kernel
theorem dX2_limitBy_2 : decode cX2_limitBy 2 = .ok (.invokevirtual 69, 3) := by decide +kernel
theorem dX2_limitBy_5 : decode cX2_limitBy 5 = .ok (.ifCond .ne 5, 3) := by decide +kernel
theorem dX2_limitBy_8 : decode cX2_limitBy 8 = .ok (.iconst 0, 1) := by decide +kernel
theorem dX2_limitBy_9 : decode cX2_limitBy 9 = .ok (.ireturn, 1) := by decide +kernel
theorem dX2_limitBy_10 : decode cX2_limitBy 10 = .ok (.aload_n 0, 1) := by decide +kernel
theorem dX2_limitBy_11 : decode cX2_limitBy 11 = .ok (.getfield 9, 3) := by decide +kernel
theorem dX2_limitBy_14 : decode cX2_limitBy 14 = .ok (.iload_n 2, 1) := by decide +kernel
theorem dX2_limitBy_15 : decode cX2_limitBy 15 = .ok (.iaload, 1) := by decide +kernel
theorem dX2_limitBy_16 : decode cX2_limitBy 16 = .ok (.tableswitch 67 1 5 #[36, 57, 43, 61, 64], 36) := by decide +kernel
theorem dX2_limitBy_52 : decode cX2_limitBy 52 = .ok (.bipush 10, 2) := by decide +kernel
theorem dX2_limitBy_54 : decode cX2_limitBy 54 = .ok (.iconst 2, 1) := by decide +kernel
theorem dX2_limitBy_55 : decode cX2_limitBy 55 = .ok (.iload_n 1, 1) := by decide +kernel
theorem dX2_limitBy_56 : decode cX2_limitBy 56 = .ok (.imul, 1) := by decide +kernel
theorem dX2_limitBy_57 : decode cX2_limitBy 57 = .ok (.iadd, 1) := by decide +kernel
theorem dX2_limitBy_58 : decode cX2_limitBy 58 = .ok (.ireturn, 1) := by decide +kernel
theorem dX2_limitBy_59 : decode cX2_limitBy 59 = .ok (.bipush 10, 2) := by decide +kernel
theorem dX2_limitBy_61 : decode cX2_limitBy 61 = .ok (.iconst 2, 1) := by decide +kernel
theorem dX2_limitBy_62 : decode cX2_limitBy 62 = .ok (.iload_n 1, 1) := by decide +kernel
theorem dX2_limitBy_63 : decode cX2_limitBy 63 = .ok (.imul, 1) := by decide +kernel
theorem dX2_limitBy_64 : decode cX2_limitBy 64 = .ok (.iadd, 1) := by decide +kernel
theorem dX2_limitBy_65 : decode cX2_limitBy 65 = .ok (.aload_n 0, 1) := by decide +kernel
theorem dX2_limitBy_66 : decode cX2_limitBy 66 = .ok (.getfield 15, 3) := by decide +kernel
theorem dX2_limitBy_69 : decode cX2_limitBy 69 = .ok (.iload_n 2, 1) := by decide +kernel
theorem dX2_limitBy_70 : decode cX2_limitBy 70 = .ok (.iaload, 1) := by decide +kernel
theorem dX2_limitBy_71 : decode cX2_limitBy 71 = .ok (.iadd, 1) := by decide +kernel
theorem dX2_limitBy_72 : decode cX2_limitBy 72 = .ok (.ireturn, 1) := by decide +kernel
theorem dX2_limitBy_73 : decode cX2_limitBy 73 = .ok (.iconst 5, 1) := by decide +kernel
theorem dX2_limitBy_74 : decode cX2_limitBy 74 = .ok (.iload_n 1, 1) := by decide +kernel
theorem dX2_limitBy_75 : decode cX2_limitBy 75 = .ok (.iadd, 1) := by decide +kernel
theorem dX2_limitBy_76 : decode cX2_limitBy 76 = .ok (.ireturn, 1) := by decide +kernel
theorem dX2_limitBy_77 : decode cX2_limitBy 77 = .ok (.bipush 35, 2) := by decide +kernel
theorem dX2_limitBy_79 : decode cX2_limitBy 79 = .ok (.ireturn, 1) := by decide +kernel
theorem dX2_limitBy_80 : decode cX2_limitBy 80 = .ok (.bipush 10, 2) := by decide +kernel
theorem dX2_limitBy_82 : decode cX2_limitBy 82 = .ok (.ireturn, 1) := by decide +kernel
theorem dX2_limitBy_83 : decode cX2_limitBy 83 = .ok (.bipush 10, 2) := by decide +kernel
theorem dX2_limitBy_85 : decode cX2_limitBy 85 = .ok (.iload_n 1, 1) := by decide +kernel
theorem dX2_limitBy_86 : decode cX2_limitBy 86 = .ok (.iadd, 1) := by decide +kernel
theorem dX2_limitBy_87 : decode cX2_limitBy 87 = .ok (.ireturn, 1) := by decide +kernel
theorem dX2_isHeard_0 : decode cX2_isHeard 0 = .ok (.aload_n 0, 1) := by decide +kernel
theorem dX2_isHeard_1 : decode cX2_isHeard 1 = .ok (.iload_n 1, 1) := by decide +kernel
theorem dX2_isHeard_2 : decode cX2_isHeard 2 = .ok (.invokevirtual 69, 3) := by decide +kernel
theorem dX2_isHeard_5 : decode cX2_isHeard 5 = .ok (.ifCond .eq 32, 3) := by decide +kernel
theorem dX2_isHeard_8 : decode cX2_isHeard 8 = .ok (.aload_n 0, 1) := by decide +kernel
theorem dX2_isHeard_9 : decode cX2_isHeard 9 = .ok (.aload_n 0, 1) := by decide +kernel
theorem dX2_isHeard_10 : decode cX2_isHeard 10 = .ok (.getfield 9, 3) := by decide +kernel
theorem dX2_isHeard_13 : decode cX2_isHeard 13 = .ok (.iload_n 1, 1) := by decide +kernel
theorem dX2_isHeard_14 : decode cX2_isHeard 14 = .ok (.iaload, 1) := by decide +kernel
theorem dX2_isHeard_15 : decode cX2_isHeard 15 = .ok (.iload_n 1, 1) := by decide +kernel
theorem dX2_isHeard_16 : decode cX2_isHeard 16 = .ok (.invokevirtual 79, 3) := by decide +kernel
theorem dX2_isHeard_19 : decode cX2_isHeard 19 = .ok (.aload_n 0, 1) := by decide +kernel
theorem dX2_isHeard_20 : decode cX2_isHeard 20 = .ok (.aload_n 0, 1) := by decide +kernel
theorem dX2_isHeard_21 : decode cX2_isHeard 21 = .ok (.getfield 18, 3) := by decide +kernel
theorem dX2_isHeard_24 : decode cX2_isHeard 24 = .ok (.iload_n 1, 1) := by decide +kernel
theorem dX2_isHeard_25 : decode cX2_isHeard 25 = .ok (.iaload, 1) := by decide +kernel
theorem dX2_isHeard_26 : decode cX2_isHeard 26 = .ok (.iload_n 1, 1) := by decide +kernel
theorem dX2_isHeard_27 : decode cX2_isHeard 27 = .ok (.invokevirtual 82, 3) := by decide +kernel
theorem dX2_isHeard_30 : decode cX2_isHeard 30 = .ok (.if_icmp .le 7, 3) := by decide +kernel
theorem dX2_isHeard_33 : decode cX2_isHeard 33 = .ok (.iconst 1, 1) := by decide +kernel
theorem dX2_isHeard_34 : decode cX2_isHeard 34 = .ok (.goto 4, 3) := by decide +kernel
theorem dX2_isHeard_37 : decode cX2_isHeard 37 = .ok (.iconst 0, 1) := by decide +kernel
theorem dX2_isHeard_38 : decode cX2_isHeard 38 = .ok (.ireturn, 1) := by decide +kernel
theorem dX2_coldestOne_0 : decode cX2_coldestOne 0 = .ok (.iconst (-1), 1) := by decide +kernel
theorem dX2_coldestOne_1 : decode cX2_coldestOne 1 = .ok (.istore_n 1, 1) := by decide +kernel
theorem dX2_coldestOne_2 : decode cX2_coldestOne 2 = .ok (.iconst (-1), 1) := by decide +kernel
theorem dX2_coldestOne_3 : decode cX2_coldestOne 3 = .ok (.istore_n 2, 1) := by decide +kernel
theorem dX2_coldestOne_4 : decode cX2_coldestOne 4 = .ok (.iconst 0, 1) := by decide +kernel
theorem dX2_coldestOne_5 : decode cX2_coldestOne 5 = .ok (.istore_n 3, 1) := by decide +kernel
theorem dX2_coldestOne_6 : decode cX2_coldestOne 6 = .ok (.iload_n 3, 1) := by decide +kernel
theorem dX2_coldestOne_7 : decode cX2_coldestOne 7 = .ok (.aload_n 0, 1) := by decide +kernel
theorem dX2_coldestOne_8 : decode cX2_coldestOne 8 = .ok (.getfield 27, 3) := by decide +kernel
theorem dX2_coldestOne_11 : decode cX2_coldestOne 11 = .ok (.if_icmp .ge 45, 3) := by decide +kernel
theorem dX2_coldestOne_14 : decode cX2_coldestOne 14 = .ok (.iload_n 3, 1) := by decide +kernel
theorem dX2_coldestOne_15 : decode cX2_coldestOne 15 = .ok (.aload_n 0, 1) := by decide +kernel
theorem dX2_coldestOne_16 : decode cX2_coldestOne 16 = .ok (.getfield 52, 3) := by decide +kernel
theorem dX2_coldestOne_19 : decode cX2_coldestOne 19 = .ok (.if_icmp .ne 7, 3) := by decide +kernel
theorem dX2_coldestOne_22 : decode cX2_coldestOne 22 = .ok (.iconst (-1), 1) := by decide +kernel
theorem dX2_coldestOne_23 : decode cX2_coldestOne 23 = .ok (.goto 14, 3) := by decide +kernel
theorem dX2_coldestOne_26 : decode cX2_coldestOne 26 = .ok (.aload_n 0, 1) := by decide +kernel
theorem dX2_coldestOne_27 : decode cX2_coldestOne 27 = .ok (.aload_n 0, 1) := by decide +kernel
theorem dX2_coldestOne_28 : decode cX2_coldestOne 28 = .ok (.getfield 9, 3) := by decide +kernel
theorem dX2_coldestOne_31 : decode cX2_coldestOne 31 = .ok (.iload_n 3, 1) := by decide +kernel
theorem dX2_coldestOne_32 : decode cX2_coldestOne 32 = .ok (.iaload, 1) := by decide +kernel
theorem dX2_coldestOne_33 : decode cX2_coldestOne 33 = .ok (.iload_n 3, 1) := by decide +kernel
theorem dX2_coldestOne_34 : decode cX2_coldestOne 34 = .ok (.invokevirtual 79, 3) := by decide +kernel
theorem dX2_coldestOne_37 : decode cX2_coldestOne 37 = .ok (.istore 4, 2) := by decide +kernel
theorem dX2_coldestOne_39 : decode cX2_coldestOne 39 = .ok (.iload 4, 2) := by decide +kernel
theorem dX2_coldestOne_41 : decode cX2_coldestOne 41 = .ok (.iload_n 2, 1) := by decide +kernel
theorem dX2_coldestOne_42 : decode cX2_coldestOne 42 = .ok (.if_icmp .le 8, 3) := by decide +kernel
theorem dX2_coldestOne_45 : decode cX2_coldestOne 45 = .ok (.iload 4, 2) := by decide +kernel
theorem dX2_coldestOne_47 : decode cX2_coldestOne 47 = .ok (.istore_n 2, 1) := by decide +kernel
theorem dX2_coldestOne_48 : decode cX2_coldestOne 48 = .ok (.iload_n 3, 1) := by decide +kernel
theorem dX2_coldestOne_49 : decode cX2_coldestOne 49 = .ok (.istore_n 1, 1) := by decide +kernel
theorem dX2_coldestOne_50 : decode cX2_coldestOne 50 = .ok (.iinc 3 1, 3) := by decide +kernel
theorem dX2_coldestOne_53 : decode cX2_coldestOne 53 = .ok (.goto (-47), 3) := by decide +kernel
theorem dX2_coldestOne_56 : decode cX2_coldestOne 56 = .ok (.iload_n 1, 1) := by decide +kernel
theorem dX2_coldestOne_57 : decode cX2_coldestOne 57 = .ok (.ireturn, 1) := by decide +kernel
theorem dX2_standsSo_0 : decode cX2_standsSo 0 = .ok (.aload_n 0, 1) := by decide +kernel
theorem dX2_standsSo_1 : decode cX2_standsSo 1 = .ok (.aload_n 0, 1) := by decide +kernel
theorem dX2_standsSo_2 : decode cX2_standsSo 2 = .ok (.invokevirtual 85, 3) := by decide +kernel
theorem dX2_standsSo_5 : decode cX2_standsSo 5 = .ok (.invokevirtual 89, 3) := by decide +kernel
theorem dX2_standsSo_8 : decode cX2_standsSo 8 = .ok (.ireturn, 1) := by decide +kernel
theorem dX2_isColder_0 : decode cX2_isColder 0 = .ok (.aload_n 0, 1) := by decide +kernel
theorem dX2_isColder_1 : decode cX2_isColder 1 = .ok (.iload_n 1, 1) := by decide +kernel
theorem dX2_isColder_2 : decode cX2_isColder 2 = .ok (.invokevirtual 69, 3) := by decide +kernel
theorem dX2_isColder_5 : decode cX2_isColder 5 = .ok (.ifCond .eq 40, 3) := by decide +kernel
theorem dX2_isColder_8 : decode cX2_isColder 8 = .ok (.aload_n 0, 1) := by decide +kernel
theorem dX2_isColder_9 : decode cX2_isColder 9 = .ok (.iload_n 2, 1) := by decide +kernel
theorem dX2_isColder_10 : decode cX2_isColder 10 = .ok (.invokevirtual 69, 3) := by decide +kernel
theorem dX2_isColder_13 : decode cX2_isColder 13 = .ok (.ifCond .eq 32, 3) := by decide +kernel
theorem dX2_isColder_16 : decode cX2_isColder 16 = .ok (.aload_n 0, 1) := by decide +kernel
theorem dX2_isColder_17 : decode cX2_isColder 17 = .ok (.aload_n 0, 1) := by decide +kernel
theorem dX2_isColder_18 : decode cX2_isColder 18 = .ok (.getfield 9, 3) := by decide +kernel
theorem dX2_isColder_21 : decode cX2_isColder 21 = .ok (.iload_n 1, 1) := by decide +kernel
theorem dX2_isColder_22 : decode cX2_isColder 22 = .ok (.iaload, 1) := by decide +kernel
theorem dX2_isColder_23 : decode cX2_isColder 23 = .ok (.iload_n 1, 1) := by decide +kernel
theorem dX2_isColder_24 : decode cX2_isColder 24 = .ok (.invokevirtual 79, 3) := by decide +kernel
theorem dX2_isColder_27 : decode cX2_isColder 27 = .ok (.aload_n 0, 1) := by decide +kernel
theorem dX2_isColder_28 : decode cX2_isColder 28 = .ok (.aload_n 0, 1) := by decide +kernel
theorem dX2_isColder_29 : decode cX2_isColder 29 = .ok (.getfield 9, 3) := by decide +kernel
theorem dX2_isColder_32 : decode cX2_isColder 32 = .ok (.iload_n 2, 1) := by decide +kernel
theorem dX2_isColder_33 : decode cX2_isColder 33 = .ok (.iaload, 1) := by decide +kernel
theorem dX2_isColder_34 : decode cX2_isColder 34 = .ok (.iload_n 2, 1) := by decide +kernel
theorem dX2_isColder_35 : decode cX2_isColder 35 = .ok (.invokevirtual 79, 3) := by decide +kernel
theorem dX2_isColder_38 : decode cX2_isColder 38 = .ok (.if_icmp .le 7, 3) := by decide +kernel
theorem dX2_isColder_41 : decode cX2_isColder 41 = .ok (.iconst 1, 1) := by decide +kernel
theorem dX2_isColder_42 : decode cX2_isColder 42 = .ok (.goto 4, 3) := by decide +kernel
theorem dX2_isColder_45 : decode cX2_isColder 45 = .ok (.iconst 0, 1) := by decide +kernel
theorem dX2_isColder_46 : decode cX2_isColder 46 = .ok (.ireturn, 1) := by decide +kernel
theorem dX2_ranked_0 : decode cX2_ranked 0 = .ok (.iconst 0, 1) := by decide +kernel
theorem dX2_ranked_1 : decode cX2_ranked 1 = .ok (.istore_n 2, 1) := by decide +kernel
theorem dX2_ranked_2 : decode cX2_ranked 2 = .ok (.iload_n 2, 1) := by decide +kernel
theorem dX2_ranked_3 : decode cX2_ranked 3 = .ok (.aload_n 0, 1) := by decide +kernel
theorem dX2_ranked_4 : decode cX2_ranked 4 = .ok (.getfield 27, 3) := by decide +kernel
theorem dX2_ranked_7 : decode cX2_ranked 7 = .ok (.if_icmp .ge 65, 3) := by decide +kernel
theorem dX2_ranked_10 : decode cX2_ranked 10 = .ok (.iconst 0, 1) := by decide +kernel
theorem dX2_ranked_11 : decode cX2_ranked 11 = .ok (.istore_n 3, 1) := by decide +kernel
theorem dX2_ranked_12 : decode cX2_ranked 12 = .ok (.iconst 0, 1) := by decide +kernel
theorem dX2_ranked_13 : decode cX2_ranked 13 = .ok (.istore 4, 2) := by decide +kernel
theorem dX2_ranked_15 : decode cX2_ranked 15 = .ok (.iload 4, 2) := by decide +kernel
theorem dX2_ranked_17 : decode cX2_ranked 17 = .ok (.aload_n 0, 1) := by decide +kernel
theorem dX2_ranked_18 : decode cX2_ranked 18 = .ok (.getfield 27, 3) := by decide +kernel
theorem dX2_ranked_21 : decode cX2_ranked 21 = .ok (.if_icmp .ge 38, 3) := by decide +kernel
theorem dX2_ranked_24 : decode cX2_ranked 24 = .ok (.aload_n 0, 1) := by decide +kernel
theorem dX2_ranked_25 : decode cX2_ranked 25 = .ok (.iload 4, 2) := by decide +kernel
theorem dX2_ranked_27 : decode cX2_ranked 27 = .ok (.iload_n 2, 1) := by decide +kernel
theorem dX2_ranked_28 : decode cX2_ranked 28 = .ok (.invokevirtual 92, 3) := by decide +kernel
theorem dX2_ranked_31 : decode cX2_ranked 31 = .ok (.ifCond .ne 19, 3) := by decide +kernel
theorem dX2_ranked_34 : decode cX2_ranked 34 = .ok (.iload 4, 2) := by decide +kernel
theorem dX2_ranked_36 : decode cX2_ranked 36 = .ok (.iload_n 2, 1) := by decide +kernel
theorem dX2_ranked_37 : decode cX2_ranked 37 = .ok (.if_icmp .ge 16, 3) := by decide +kernel
theorem dX2_ranked_40 : decode cX2_ranked 40 = .ok (.aload_n 0, 1) := by decide +kernel
theorem dX2_ranked_41 : decode cX2_ranked 41 = .ok (.iload_n 2, 1) := by decide +kernel
theorem dX2_ranked_42 : decode cX2_ranked 42 = .ok (.iload 4, 2) := by decide +kernel
theorem dX2_ranked_44 : decode cX2_ranked 44 = .ok (.invokevirtual 92, 3) := by decide +kernel
theorem dX2_ranked_47 : decode cX2_ranked 47 = .ok (.ifCond .ne 6, 3) := by decide +kernel
theorem dX2_ranked_50 : decode cX2_ranked 50 = .ok (.iinc 3 1, 3) := by decide +kernel
theorem dX2_ranked_53 : decode cX2_ranked 53 = .ok (.iinc 4 1, 3) := by decide +kernel
theorem dX2_ranked_56 : decode cX2_ranked 56 = .ok (.goto (-41), 3) := by decide +kernel
theorem dX2_ranked_59 : decode cX2_ranked 59 = .ok (.iload_n 3, 1) := by decide +kernel
theorem dX2_ranked_60 : decode cX2_ranked 60 = .ok (.iload_n 1, 1) := by decide +kernel
theorem dX2_ranked_61 : decode cX2_ranked 61 = .ok (.if_icmp .ne 5, 3) := by decide +kernel
theorem dX2_ranked_64 : decode cX2_ranked 64 = .ok (.iload_n 2, 1) := by decide +kernel
theorem dX2_ranked_65 : decode cX2_ranked 65 = .ok (.ireturn, 1) := by decide +kernel
theorem dX2_ranked_66 : decode cX2_ranked 66 = .ok (.iinc 2 1, 3) := by decide +kernel
theorem dX2_ranked_69 : decode cX2_ranked 69 = .ok (.goto (-67), 3) := by decide +kernel
theorem dX2_ranked_72 : decode cX2_ranked 72 = .ok (.iconst (-1), 1) := by decide +kernel
theorem dX2_ranked_73 : decode cX2_ranked 73 = .ok (.ireturn, 1) := by decide +kernel
theorem dX2_feedMore_0 : decode cX2_feedMore 0 = .ok (.aload_n 0, 1) := by decide +kernel
theorem dX2_feedMore_1 : decode cX2_feedMore 1 = .ok (.iload_n 1, 1) := by decide +kernel
theorem dX2_feedMore_2 : decode cX2_feedMore 2 = .ok (.invokevirtual 69, 3) := by decide +kernel
theorem dX2_feedMore_5 : decode cX2_feedMore 5 = .ok (.ifCond .eq 22, 3) := by decide +kernel
theorem dX2_feedMore_8 : decode cX2_feedMore 8 = .ok (.aload_n 0, 1) := by decide +kernel
theorem dX2_feedMore_9 : decode cX2_feedMore 9 = .ok (.getfield 24, 3) := by decide +kernel
theorem dX2_feedMore_12 : decode cX2_feedMore 12 = .ok (.iload_n 1, 1) := by decide +kernel
theorem dX2_feedMore_13 : decode cX2_feedMore 13 = .ok (.bipush 40, 2) := by decide +kernel
theorem dX2_feedMore_15 : decode cX2_feedMore 15 = .ok (.aload_n 0, 1) := by decide +kernel
theorem dX2_feedMore_16 : decode cX2_feedMore 16 = .ok (.getfield 24, 3) := by decide +kernel
theorem dX2_feedMore_19 : decode cX2_feedMore 19 = .ok (.iload_n 1, 1) := by decide +kernel
theorem dX2_feedMore_20 : decode cX2_feedMore 20 = .ok (.iaload, 1) := by decide +kernel
theorem dX2_feedMore_21 : decode cX2_feedMore 21 = .ok (.iload_n 2, 1) := by decide +kernel
theorem dX2_feedMore_22 : decode cX2_feedMore 22 = .ok (.iadd, 1) := by decide +kernel
theorem dX2_feedMore_23 : decode cX2_feedMore 23 = .ok (.invokestatic 96, 3) := by decide +kernel
theorem dX2_feedMore_26 : decode cX2_feedMore 26 = .ok (.iastore, 1) := by decide +kernel
theorem dX2_feedMore_27 : decode cX2_feedMore 27 = .ok (.return_, 1) := by decide +kernel
theorem dX2_coolDown_0 : decode cX2_coolDown 0 = .ok (.aload_n 0, 1) := by decide +kernel
theorem dX2_coolDown_1 : decode cX2_coolDown 1 = .ok (.iconst 0, 1) := by decide +kernel
theorem dX2_coolDown_2 : decode cX2_coolDown 2 = .ok (.aload_n 0, 1) := by decide +kernel
theorem dX2_coolDown_3 : decode cX2_coolDown 3 = .ok (.getfield 31, 3) := by decide +kernel
theorem dX2_coolDown_6 : decode cX2_coolDown 6 = .ok (.iload_n 1, 1) := by decide +kernel
theorem dX2_coolDown_7 : decode cX2_coolDown 7 = .ok (.aload_n 0, 1) := by decide +kernel
theorem dX2_coolDown_8 : decode cX2_coolDown 8 = .ok (.getfield 34, 3) := by decide +kernel
theorem dX2_coolDown_11 : decode cX2_coolDown 11 = .ok (.imul, 1) := by decide +kernel
theorem dX2_coolDown_12 : decode cX2_coolDown 12 = .ok (.isub, 1) := by decide +kernel
theorem dX2_coolDown_13 : decode cX2_coolDown 13 = .ok (.invokestatic 73, 3) := by decide +kernel
theorem dX2_coolDown_16 : decode cX2_coolDown 16 = .ok (.putfield 31, 3) := by decide +kernel
theorem dX2_coolDown_19 : decode cX2_coolDown 19 = .ok (.iconst 0, 1) := by decide +kernel
theorem dX2_coolDown_20 : decode cX2_coolDown 20 = .ok (.istore_n 2, 1) := by decide +kernel
theorem dX2_coolDown_21 : decode cX2_coolDown 21 = .ok (.iload_n 2, 1) := by decide +kernel
theorem dX2_coolDown_22 : decode cX2_coolDown 22 = .ok (.aload_n 0, 1) := by decide +kernel
theorem dX2_coolDown_23 : decode cX2_coolDown 23 = .ok (.getfield 27, 3) := by decide +kernel
theorem dX2_coolDown_26 : decode cX2_coolDown 26 = .ok (.if_icmp .ge 27, 3) := by decide +kernel
theorem dX2_coolDown_29 : decode cX2_coolDown 29 = .ok (.aload_n 0, 1) := by decide +kernel
theorem dX2_coolDown_30 : decode cX2_coolDown 30 = .ok (.getfield 24, 3) := by decide +kernel
theorem dX2_coolDown_33 : decode cX2_coolDown 33 = .ok (.iload_n 2, 1) := by decide +kernel
theorem dX2_coolDown_34 : decode cX2_coolDown 34 = .ok (.iconst 0, 1) := by decide +kernel
theorem dX2_coolDown_35 : decode cX2_coolDown 35 = .ok (.aload_n 0, 1) := by decide +kernel
theorem dX2_coolDown_36 : decode cX2_coolDown 36 = .ok (.getfield 24, 3) := by decide +kernel
theorem dX2_coolDown_39 : decode cX2_coolDown 39 = .ok (.iload_n 2, 1) := by decide +kernel
theorem dX2_coolDown_40 : decode cX2_coolDown 40 = .ok (.iaload, 1) := by decide +kernel
theorem dX2_coolDown_41 : decode cX2_coolDown 41 = .ok (.iload_n 1, 1) := by decide +kernel
theorem dX2_coolDown_42 : decode cX2_coolDown 42 = .ok (.isub, 1) := by decide +kernel
theorem dX2_coolDown_43 : decode cX2_coolDown 43 = .ok (.invokestatic 73, 3) := by decide +kernel
theorem dX2_coolDown_46 : decode cX2_coolDown 46 = .ok (.iastore, 1) := by decide +kernel
theorem dX2_coolDown_47 : decode cX2_coolDown 47 = .ok (.iinc 2 1, 3) := by decide +kernel
theorem dX2_coolDown_50 : decode cX2_coolDown 50 = .ok (.goto (-29), 3) := by decide +kernel
theorem dX2_coolDown_53 : decode cX2_coolDown 53 = .ok (.return_, 1) := by decide +kernel
theorem dX2_passDay_0 : decode cX2_passDay 0 = .ok (.aload_n 0, 1) := by decide +kernel
theorem dX2_passDay_1 : decode cX2_passDay 1 = .ok (.getfield 40, 3) := by decide +kernel
theorem dX2_passDay_4 : decode cX2_passDay 4 = .ok (.iconst (-1), 1) := by decide +kernel
theorem dX2_passDay_5 : decode cX2_passDay 5 = .ok (.if_icmp .ne 18, 3) := by decide +kernel
theorem dX2_passDay_8 : decode cX2_passDay 8 = .ok (.aload_n 0, 1) := by decide +kernel
theorem dX2_passDay_9 : decode cX2_passDay 9 = .ok (.invokevirtual 99, 3) := by decide +kernel
theorem dX2_passDay_12 : decode cX2_passDay 12 = .ok (.ifCond .eq 11, 3) := by decide +kernel
theorem dX2_passDay_15 : decode cX2_passDay 15 = .ok (.aload_n 0, 1) := by decide +kernel
theorem dX2_passDay_16 : decode cX2_passDay 16 = .ok (.aload_n 0, 1) := by decide +kernel
theorem dX2_passDay_17 : decode cX2_passDay 17 = .ok (.getfield 37, 3) := by decide +kernel
theorem dX2_passDay_20 : decode cX2_passDay 20 = .ok (.putfield 40, 3) := by decide +kernel
theorem dX2_passDay_23 : decode cX2_passDay 23 = .ok (.aload_n 0, 1) := by decide +kernel
theorem dX2_passDay_24 : decode cX2_passDay 24 = .ok (.iconst 1, 1) := by decide +kernel
theorem dX2_passDay_25 : decode cX2_passDay 25 = .ok (.invokevirtual 102, 3) := by decide +kernel
theorem dX2_passDay_28 : decode cX2_passDay 28 = .ok (.aload_n 0, 1) := by decide +kernel
theorem dX2_passDay_29 : decode cX2_passDay 29 = .ok (.sipush 999, 3) := by decide +kernel
theorem dX2_passDay_32 : decode cX2_passDay 32 = .ok (.aload_n 0, 1) := by decide +kernel
theorem dX2_passDay_33 : decode cX2_passDay 33 = .ok (.getfield 37, 3) := by decide +kernel
theorem dX2_passDay_36 : decode cX2_passDay 36 = .ok (.iconst 1, 1) := by decide +kernel
theorem dX2_passDay_37 : decode cX2_passDay 37 = .ok (.iadd, 1) := by decide +kernel
theorem dX2_passDay_38 : decode cX2_passDay 38 = .ok (.invokestatic 96, 3) := by decide +kernel
theorem dX2_passDay_41 : decode cX2_passDay 41 = .ok (.putfield 37, 3) := by decide +kernel
theorem dX2_passDay_44 : decode cX2_passDay 44 = .ok (.return_, 1) := by decide +kernel
theorem dX2_firstSo_0 : decode cX2_firstSo 0 = .ok (.iconst 0, 1) := by decide +kernel
theorem dX2_firstSo_1 : decode cX2_firstSo 1 = .ok (.istore_n 2, 1) := by decide +kernel
theorem dX2_firstSo_2 : decode cX2_firstSo 2 = .ok (.iload_n 2, 1) := by decide +kernel
theorem dX2_firstSo_3 : decode cX2_firstSo 3 = .ok (.iload_n 1, 1) := by decide +kernel
theorem dX2_firstSo_4 : decode cX2_firstSo 4 = .ok (.if_icmp .gt 23, 3) := by decide +kernel
theorem dX2_firstSo_7 : decode cX2_firstSo 7 = .ok (.aload_n 0, 1) := by decide +kernel
theorem dX2_firstSo_8 : decode cX2_firstSo 8 = .ok (.invokevirtual 99, 3) := by decide +kernel
theorem dX2_firstSo_11 : decode cX2_firstSo 11 = .ok (.ifCond .eq 5, 3) := by decide +kernel
theorem dX2_firstSo_14 : decode cX2_firstSo 14 = .ok (.iload_n 2, 1) := by decide +kernel
theorem dX2_firstSo_15 : decode cX2_firstSo 15 = .ok (.ireturn, 1) := by decide +kernel
theorem dX2_firstSo_16 : decode cX2_firstSo 16 = .ok (.aload_n 0, 1) := by decide +kernel
theorem dX2_firstSo_17 : decode cX2_firstSo 17 = .ok (.iconst 1, 1) := by decide +kernel
theorem dX2_firstSo_18 : decode cX2_firstSo 18 = .ok (.invokevirtual 102, 3) := by decide +kernel
theorem dX2_firstSo_21 : decode cX2_firstSo 21 = .ok (.iinc 2 1, 3) := by decide +kernel
theorem dX2_firstSo_24 : decode cX2_firstSo 24 = .ok (.goto (-22), 3) := by decide +kernel
theorem dX2_firstSo_27 : decode cX2_firstSo 27 = .ok (.iconst (-1), 1) := by decide +kernel
theorem dX2_firstSo_28 : decode cX2_firstSo 28 = .ok (.ireturn, 1) := by decide +kernel
theorem dX2_countOf_0 : decode cX2_countOf 0 = .ok (.iconst 0, 1) := by decide +kernel
theorem dX2_countOf_1 : decode cX2_countOf 1 = .ok (.istore_n 2, 1) := by decide +kernel
theorem dX2_countOf_2 : decode cX2_countOf 2 = .ok (.iconst 0, 1) := by decide +kernel
theorem dX2_countOf_3 : decode cX2_countOf 3 = .ok (.istore_n 3, 1) := by decide +kernel
theorem dX2_countOf_4 : decode cX2_countOf 4 = .ok (.iload_n 3, 1) := by decide +kernel
theorem dX2_countOf_5 : decode cX2_countOf 5 = .ok (.aload_n 0, 1) := by decide +kernel
theorem dX2_countOf_6 : decode cX2_countOf 6 = .ok (.getfield 27, 3) := by decide +kernel
theorem dX2_countOf_9 : decode cX2_countOf 9 = .ok (.if_icmp .ge 30, 3) := by decide +kernel
theorem dX2_countOf_12 : decode cX2_countOf 12 = .ok (.iload_n 2, 1) := by decide +kernel
theorem dX2_countOf_13 : decode cX2_countOf 13 = .ok (.aload_n 0, 1) := by decide +kernel
theorem dX2_countOf_14 : decode cX2_countOf 14 = .ok (.getfield 9, 3) := by decide +kernel
theorem dX2_countOf_17 : decode cX2_countOf 17 = .ok (.iload_n 3, 1) := by decide +kernel
theorem dX2_countOf_18 : decode cX2_countOf 18 = .ok (.iaload, 1) := by decide +kernel
theorem dX2_countOf_19 : decode cX2_countOf 19 = .ok (.iload_n 1, 1) := by decide +kernel
theorem dX2_countOf_20 : decode cX2_countOf 20 = .ok (.if_icmp .ne 7, 3) := by decide +kernel
theorem dX2_countOf_23 : decode cX2_countOf 23 = .ok (.iconst 1, 1) := by decide +kernel
theorem dX2_countOf_24 : decode cX2_countOf 24 = .ok (.goto 4, 3) := by decide +kernel
theorem dX2_countOf_27 : decode cX2_countOf 27 = .ok (.iconst 0, 1) := by decide +kernel
theorem dX2_countOf_28 : decode cX2_countOf 28 = .ok (.invokestatic 65, 3) := by decide +kernel
theorem dX2_countOf_31 : decode cX2_countOf 31 = .ok (.iadd, 1) := by decide +kernel
theorem dX2_countOf_32 : decode cX2_countOf 32 = .ok (.istore_n 2, 1) := by decide +kernel
theorem dX2_countOf_33 : decode cX2_countOf 33 = .ok (.iinc 3 1, 3) := by decide +kernel
theorem dX2_countOf_36 : decode cX2_countOf 36 = .ok (.goto (-32), 3) := by decide +kernel
theorem dX2_countOf_39 : decode cX2_countOf 39 = .ok (.iload_n 2, 1) := by decide +kernel
theorem dX2_countOf_40 : decode cX2_countOf 40 = .ok (.ireturn, 1) := by decide +kernel
theorem dX2_allFed_0 : decode cX2_allFed 0 = .ok (.iconst 0, 1) := by decide +kernel
theorem dX2_allFed_1 : decode cX2_allFed 1 = .ok (.istore_n 1, 1) := by decide +kernel
theorem dX2_allFed_2 : decode cX2_allFed 2 = .ok (.iconst 0, 1) := by decide +kernel
theorem dX2_allFed_3 : decode cX2_allFed 3 = .ok (.istore_n 2, 1) := by decide +kernel
theorem dX2_allFed_4 : decode cX2_allFed 4 = .ok (.iload_n 2, 1) := by decide +kernel
theorem dX2_allFed_5 : decode cX2_allFed 5 = .ok (.aload_n 0, 1) := by decide +kernel
theorem dX2_allFed_6 : decode cX2_allFed 6 = .ok (.getfield 27, 3) := by decide +kernel
theorem dX2_allFed_9 : decode cX2_allFed 9 = .ok (.if_icmp .ge 18, 3) := by decide +kernel
theorem dX2_allFed_12 : decode cX2_allFed 12 = .ok (.iload_n 1, 1) := by decide +kernel
theorem dX2_allFed_13 : decode cX2_allFed 13 = .ok (.aload_n 0, 1) := by decide +kernel
theorem dX2_allFed_14 : decode cX2_allFed 14 = .ok (.getfield 24, 3) := by decide +kernel
theorem dX2_allFed_17 : decode cX2_allFed 17 = .ok (.iload_n 2, 1) := by decide +kernel
theorem dX2_allFed_18 : decode cX2_allFed 18 = .ok (.iaload, 1) := by decide +kernel
theorem dX2_allFed_19 : decode cX2_allFed 19 = .ok (.iadd, 1) := by decide +kernel
theorem dX2_allFed_20 : decode cX2_allFed 20 = .ok (.istore_n 1, 1) := by decide +kernel
theorem dX2_allFed_21 : decode cX2_allFed 21 = .ok (.iinc 2 1, 3) := by decide +kernel
theorem dX2_allFed_24 : decode cX2_allFed 24 = .ok (.goto (-20), 3) := by decide +kernel
theorem dX2_allFed_27 : decode cX2_allFed 27 = .ok (.iload_n 1, 1) := by decide +kernel
theorem dX2_allFed_28 : decode cX2_allFed 28 = .ok (.ireturn, 1) := by decide +kernel
theorem dX2_drawBelow_0 : decode cX2_drawBelow 0 = .ok (.aload_n 0, 1) := by decide +kernel
theorem dX2_drawBelow_1 : decode cX2_drawBelow 1 = .ok (.aload_n 0, 1) := by decide +kernel
theorem dX2_drawBelow_2 : decode cX2_drawBelow 2 = .ok (.getfield 46, 3) := by decide +kernel
theorem dX2_drawBelow_5 : decode cX2_drawBelow 5 = .ok (.ldc 106, 2) := by decide +kernel
theorem dX2_drawBelow_7 : decode cX2_drawBelow 7 = .ok (.imul, 1) := by decide +kernel
theorem dX2_drawBelow_8 : decode cX2_drawBelow 8 = .ok (.sipush 12345, 3) := by decide +kernel
theorem dX2_drawBelow_11 : decode cX2_drawBelow 11 = .ok (.iadd, 1) := by decide +kernel
theorem dX2_drawBelow_12 : decode cX2_drawBelow 12 = .ok (.putfield 46, 3) := by decide +kernel
theorem dX2_drawBelow_15 : decode cX2_drawBelow 15 = .ok (.iload_n 1, 1) := by decide +kernel
theorem dX2_drawBelow_16 : decode cX2_drawBelow 16 = .ok (.ifCond .le 15, 3) := by decide +kernel
theorem dX2_drawBelow_19 : decode cX2_drawBelow 19 = .ok (.aload_n 0, 1) := by decide +kernel
theorem dX2_drawBelow_20 : decode cX2_drawBelow 20 = .ok (.getfield 46, 3) := by decide +kernel
theorem dX2_drawBelow_23 : decode cX2_drawBelow 23 = .ok (.bipush 16, 2) := by decide +kernel
theorem dX2_drawBelow_25 : decode cX2_drawBelow 25 = .ok (.iushr, 1) := by decide +kernel
theorem dX2_drawBelow_26 : decode cX2_drawBelow 26 = .ok (.iload_n 1, 1) := by decide +kernel
theorem dX2_drawBelow_27 : decode cX2_drawBelow 27 = .ok (.irem, 1) := by decide +kernel
theorem dX2_drawBelow_28 : decode cX2_drawBelow 28 = .ok (.goto 4, 3) := by decide +kernel
theorem dX2_drawBelow_31 : decode cX2_drawBelow 31 = .ok (.iconst 0, 1) := by decide +kernel
theorem dX2_drawBelow_32 : decode cX2_drawBelow 32 = .ok (.ireturn, 1) := by decide +kernel
theorem dX3_init_0 : decode cX3_init 0 = .ok (.aload_n 0, 1) := by decide +kernel
theorem dX3_init_1 : decode cX3_init 1 = .ok (.invokespecial 3, 3) := by decide +kernel
theorem dX3_init_4 : decode cX3_init 4 = .ok (.aload_n 0, 1) := by decide +kernel
theorem dX3_init_5 : decode cX3_init 5 = .ok (.new 9, 3) := by decide +kernel
theorem dX3_init_8 : decode cX3_init 8 = .ok (.dup, 1) := by decide +kernel
theorem dX3_init_9 : decode cX3_init 9 = .ok (.invokespecial 11, 3) := by decide +kernel
theorem dX3_init_12 : decode cX3_init 12 = .ok (.putfield 12, 3) := by decide +kernel
theorem dX3_init_15 : decode cX3_init 15 = .ok (.aload_n 0, 1) := by decide +kernel
theorem dX3_init_16 : decode cX3_init 16 = .ok (.iconst (-1), 1) := by decide +kernel
theorem dX3_init_17 : decode cX3_init 17 = .ok (.putfield 18, 3) := by decide +kernel
theorem dX3_init_20 : decode cX3_init 20 = .ok (.return_, 1) := by decide +kernel
theorem dX3_begin_0 : decode cX3_begin 0 = .ok (.aload_n 0, 1) := by decide +kernel
theorem dX3_begin_1 : decode cX3_begin 1 = .ok (.getfield 12, 3) := by decide +kernel
theorem dX3_begin_4 : decode cX3_begin 4 = .ok (.aload_n 1, 1) := by decide +kernel
theorem dX3_begin_5 : decode cX3_begin 5 = .ok (.invokevirtual 22, 3) := by decide +kernel
theorem dX3_begin_8 : decode cX3_begin 8 = .ok (.aload_n 0, 1) := by decide +kernel
theorem dX3_begin_9 : decode cX3_begin 9 = .ok (.getfield 12, 3) := by decide +kernel
theorem dX3_begin_12 : decode cX3_begin 12 = .ok (.areturn, 1) := by decide +kernel
theorem dX3_leastFeed_0 : decode cX3_leastFeed 0 = .ok (.aload_n 0, 1) := by decide +kernel
theorem dX3_leastFeed_1 : decode cX3_leastFeed 1 = .ok (.iconst (-1), 1) := by decide +kernel
theorem dX3_leastFeed_2 : decode cX3_leastFeed 2 = .ok (.putfield 18, 3) := by decide +kernel
theorem dX3_leastFeed_5 : decode cX3_leastFeed 5 = .ok (.aload_n 0, 1) := by decide +kernel
theorem dX3_leastFeed_6 : decode cX3_leastFeed 6 = .ok (.aload_n 1, 1) := by decide +kernel
theorem dX3_leastFeed_7 : decode cX3_leastFeed 7 = .ok (.invokevirtual 26, 3) := by decide +kernel
theorem dX3_leastFeed_10 : decode cX3_leastFeed 10 = .ok (.pop, 1) := by decide +kernel
theorem dX3_leastFeed_11 : decode cX3_leastFeed 11 = .ok (.aload_n 0, 1) := by decide +kernel
theorem dX3_leastFeed_12 : decode cX3_leastFeed 12 = .ok (.getfield 12, 3) := by decide +kernel
theorem dX3_leastFeed_15 : decode cX3_leastFeed 15 = .ok (.iload_n 2, 1) := by decide +kernel
theorem dX3_leastFeed_16 : decode cX3_leastFeed 16 = .ok (.invokevirtual 30, 3) := by decide +kernel
theorem dX3_leastFeed_19 : decode cX3_leastFeed 19 = .ok (.iconst (-1), 1) := by decide +kernel
theorem dX3_leastFeed_20 : decode cX3_leastFeed 20 = .ok (.if_icmp .ne 5, 3) := by decide +kernel
theorem dX3_leastFeed_23 : decode cX3_leastFeed 23 = .ok (.iconst 0, 1) := by decide +kernel
theorem dX3_leastFeed_24 : decode cX3_leastFeed 24 = .ok (.ireturn, 1) := by decide +kernel
theorem dX3_leastFeed_25 : decode cX3_leastFeed 25 = .ok (.bipush 41, 2) := by decide +kernel
theorem dX3_leastFeed_27 : decode cX3_leastFeed 27 = .ok (.istore_n 3, 1) := by decide +kernel
theorem dX3_leastFeed_28 : decode cX3_leastFeed 28 = .ok (.iconst 0, 1) := by decide +kernel
theorem dX3_leastFeed_29 : decode cX3_leastFeed 29 = .ok (.istore 4, 2) := by decide +kernel
theorem dX3_leastFeed_31 : decode cX3_leastFeed 31 = .ok (.iload 4, 2) := by decide +kernel
theorem dX3_leastFeed_33 : decode cX3_leastFeed 33 = .ok (.aload_n 1, 1) := by decide +kernel
theorem dX3_leastFeed_34 : decode cX3_leastFeed 34 = .ok (.getfield 34, 3) := by decide +kernel
theorem dX3_leastFeed_37 : decode cX3_leastFeed 37 = .ok (.if_icmp .ge 62, 3) := by decide +kernel
theorem dX3_leastFeed_40 : decode cX3_leastFeed 40 = .ok (.iconst 1, 1) := by decide +kernel
theorem dX3_leastFeed_41 : decode cX3_leastFeed 41 = .ok (.istore 5, 2) := by decide +kernel
theorem dX3_leastFeed_43 : decode cX3_leastFeed 43 = .ok (.iload 5, 2) := by decide +kernel
theorem dX3_leastFeed_45 : decode cX3_leastFeed 45 = .ok (.iload_n 3, 1) := by decide +kernel
theorem dX3_leastFeed_46 : decode cX3_leastFeed 46 = .ok (.if_icmp .ge 47, 3) := by decide +kernel
theorem dX3_leastFeed_49 : decode cX3_leastFeed 49 = .ok (.aload_n 0, 1) := by decide +kernel
theorem dX3_leastFeed_50 : decode cX3_leastFeed 50 = .ok (.aload_n 1, 1) := by decide +kernel
theorem dX3_leastFeed_51 : decode cX3_leastFeed 51 = .ok (.invokevirtual 26, 3) := by decide +kernel
theorem dX3_leastFeed_54 : decode cX3_leastFeed 54 = .ok (.pop, 1) := by decide +kernel
theorem dX3_leastFeed_55 : decode cX3_leastFeed 55 = .ok (.aload_n 0, 1) := by decide +kernel
theorem dX3_leastFeed_56 : decode cX3_leastFeed 56 = .ok (.getfield 12, 3) := by decide +kernel
theorem dX3_leastFeed_59 : decode cX3_leastFeed 59 = .ok (.iload 4, 2) := by decide +kernel
theorem dX3_leastFeed_61 : decode cX3_leastFeed 61 = .ok (.iload 5, 2) := by decide +kernel
theorem dX3_leastFeed_63 : decode cX3_leastFeed 63 = .ok (.invokevirtual 37, 3) := by decide +kernel
theorem dX3_leastFeed_66 : decode cX3_leastFeed 66 = .ok (.aload_n 0, 1) := by decide +kernel
theorem dX3_leastFeed_67 : decode cX3_leastFeed 67 = .ok (.getfield 12, 3) := by decide +kernel
theorem dX3_leastFeed_70 : decode cX3_leastFeed 70 = .ok (.iload_n 2, 1) := by decide +kernel
theorem dX3_leastFeed_71 : decode cX3_leastFeed 71 = .ok (.invokevirtual 30, 3) := by decide +kernel
theorem dX3_leastFeed_74 : decode cX3_leastFeed 74 = .ok (.iconst (-1), 1) := by decide +kernel
theorem dX3_leastFeed_75 : decode cX3_leastFeed 75 = .ok (.if_icmp .ne 12, 3) := by decide +kernel
theorem dX3_leastFeed_78 : decode cX3_leastFeed 78 = .ok (.iload 5, 2) := by decide +kernel
theorem dX3_leastFeed_80 : decode cX3_leastFeed 80 = .ok (.istore_n 3, 1) := by decide +kernel
theorem dX3_leastFeed_81 : decode cX3_leastFeed 81 = .ok (.aload_n 0, 1) := by decide +kernel
theorem dX3_leastFeed_82 : decode cX3_leastFeed 82 = .ok (.iload 4, 2) := by decide +kernel
theorem dX3_leastFeed_84 : decode cX3_leastFeed 84 = .ok (.putfield 18, 3) := by decide +kernel
theorem dX3_leastFeed_87 : decode cX3_leastFeed 87 = .ok (.iinc 5 1, 3) := by decide +kernel
theorem dX3_leastFeed_90 : decode cX3_leastFeed 90 = .ok (.goto (-47), 3) := by decide +kernel
theorem dX3_leastFeed_93 : decode cX3_leastFeed 93 = .ok (.iinc 4 1, 3) := by decide +kernel
theorem dX3_leastFeed_96 : decode cX3_leastFeed 96 = .ok (.goto (-65), 3) := by decide +kernel
theorem dX3_leastFeed_99 : decode cX3_leastFeed 99 = .ok (.aload_n 0, 1) := by decide +kernel
theorem dX3_leastFeed_100 : decode cX3_leastFeed 100 = .ok (.getfield 18, 3) := by decide +kernel
theorem dX3_leastFeed_103 : decode cX3_leastFeed 103 = .ok (.iconst (-1), 1) := by decide +kernel
theorem dX3_leastFeed_104 : decode cX3_leastFeed 104 = .ok (.if_icmp .ne 7, 3) := by decide +kernel
theorem dX3_leastFeed_107 : decode cX3_leastFeed 107 = .ok (.iconst (-1), 1) := by decide +kernel
theorem dX3_leastFeed_108 : decode cX3_leastFeed 108 = .ok (.goto 4, 3) := by decide +kernel
theorem dX3_leastFeed_111 : decode cX3_leastFeed 111 = .ok (.iload_n 3, 1) := by decide +kernel
theorem dX3_leastFeed_112 : decode cX3_leastFeed 112 = .ok (.ireturn, 1) := by decide +kernel
theorem dX3_fewestWarmed_0 : decode cX3_fewestWarmed 0 = .ok (.iconst (-1), 1) := by decide +kernel
theorem dX3_fewestWarmed_1 : decode cX3_fewestWarmed 1 = .ok (.istore_n 3, 1) := by decide +kernel
theorem dX3_fewestWarmed_2 : decode cX3_fewestWarmed 2 = .ok (.bipush 9, 2) := by decide +kernel
theorem dX3_fewestWarmed_4 : decode cX3_fewestWarmed 4 = .ok (.istore 4, 2) := by decide +kernel
theorem dX3_fewestWarmed_6 : decode cX3_fewestWarmed 6 = .ok (.iconst 0, 1) := by decide +kernel
theorem dX3_fewestWarmed_7 : decode cX3_fewestWarmed 7 = .ok (.istore 5, 2) := by decide +kernel
theorem dX3_fewestWarmed_9 : decode cX3_fewestWarmed 9 = .ok (.iload 5, 2) := by decide +kernel
theorem dX3_fewestWarmed_11 : decode cX3_fewestWarmed 11 = .ok (.iconst 1, 1) := by decide +kernel
theorem dX3_fewestWarmed_12 : decode cX3_fewestWarmed 12 = .ok (.aload_n 1, 1) := by decide +kernel
theorem dX3_fewestWarmed_13 : decode cX3_fewestWarmed 13 = .ok (.getfield 34, 3) := by decide +kernel
theorem dX3_fewestWarmed_16 : decode cX3_fewestWarmed 16 = .ok (.ishl, 1) := by decide +kernel
theorem dX3_fewestWarmed_17 : decode cX3_fewestWarmed 17 = .ok (.if_icmp .ge 56, 3) := by decide +kernel
theorem dX3_fewestWarmed_20 : decode cX3_fewestWarmed 20 = .ok (.iload 5, 2) := by decide +kernel
theorem dX3_fewestWarmed_22 : decode cX3_fewestWarmed 22 = .ok (.invokestatic 41, 3) := by decide +kernel
theorem dX3_fewestWarmed_25 : decode cX3_fewestWarmed 25 = .ok (.iload 4, 2) := by decide +kernel
theorem dX3_fewestWarmed_27 : decode cX3_fewestWarmed 27 = .ok (.if_icmp .lt 6, 3) := by decide +kernel
theorem dX3_fewestWarmed_30 : decode cX3_fewestWarmed 30 = .ok (.goto 37, 3) := by decide +kernel
theorem dX3_fewestWarmed_33 : decode cX3_fewestWarmed 33 = .ok (.aload_n 0, 1) := by decide +kernel
theorem dX3_fewestWarmed_34 : decode cX3_fewestWarmed 34 = .ok (.aload_n 1, 1) := by decide +kernel
theorem dX3_fewestWarmed_35 : decode cX3_fewestWarmed 35 = .ok (.invokevirtual 26, 3) := by decide +kernel
theorem dX3_fewestWarmed_38 : decode cX3_fewestWarmed 38 = .ok (.pop, 1) := by decide +kernel
theorem dX3_fewestWarmed_39 : decode cX3_fewestWarmed 39 = .ok (.aload_n 0, 1) := by decide +kernel
theorem dX3_fewestWarmed_40 : decode cX3_fewestWarmed 40 = .ok (.iload 5, 2) := by decide +kernel
theorem dX3_fewestWarmed_42 : decode cX3_fewestWarmed 42 = .ok (.invokevirtual 46, 3) := by decide +kernel
theorem dX3_fewestWarmed_45 : decode cX3_fewestWarmed 45 = .ok (.aload_n 0, 1) := by decide +kernel
theorem dX3_fewestWarmed_46 : decode cX3_fewestWarmed 46 = .ok (.getfield 12, 3) := by decide +kernel
theorem dX3_fewestWarmed_49 : decode cX3_fewestWarmed 49 = .ok (.iload_n 2, 1) := by decide +kernel
theorem dX3_fewestWarmed_50 : decode cX3_fewestWarmed 50 = .ok (.invokevirtual 30, 3) := by decide +kernel
theorem dX3_fewestWarmed_53 : decode cX3_fewestWarmed 53 = .ok (.iload_n 2, 1) := by decide +kernel
theorem dX3_fewestWarmed_54 : decode cX3_fewestWarmed 54 = .ok (.if_icmp .ne 13, 3) := by decide +kernel
theorem dX3_fewestWarmed_57 : decode cX3_fewestWarmed 57 = .ok (.iload 5, 2) := by decide +kernel
theorem dX3_fewestWarmed_59 : decode cX3_fewestWarmed 59 = .ok (.istore_n 3, 1) := by decide +kernel
theorem dX3_fewestWarmed_60 : decode cX3_fewestWarmed 60 = .ok (.iload 5, 2) := by decide +kernel
theorem dX3_fewestWarmed_62 : decode cX3_fewestWarmed 62 = .ok (.invokestatic 41, 3) := by decide +kernel
theorem dX3_fewestWarmed_65 : decode cX3_fewestWarmed 65 = .ok (.istore 4, 2) := by decide +kernel
theorem dX3_fewestWarmed_67 : decode cX3_fewestWarmed 67 = .ok (.iinc 5 1, 3) := by decide +kernel
theorem dX3_fewestWarmed_70 : decode cX3_fewestWarmed 70 = .ok (.goto (-61), 3) := by decide +kernel
theorem dX3_fewestWarmed_73 : decode cX3_fewestWarmed 73 = .ok (.iload_n 3, 1) := by decide +kernel
theorem dX3_fewestWarmed_74 : decode cX3_fewestWarmed 74 = .ok (.ireturn, 1) := by decide +kernel
theorem dX3_warmThese_0 : decode cX3_warmThese 0 = .ok (.iconst 0, 1) := by decide +kernel
theorem dX3_warmThese_1 : decode cX3_warmThese 1 = .ok (.istore_n 2, 1) := by decide +kernel
theorem dX3_warmThese_2 : decode cX3_warmThese 2 = .ok (.iload_n 2, 1) := by decide +kernel
theorem dX3_warmThese_3 : decode cX3_warmThese 3 = .ok (.aload_n 0, 1) := by decide +kernel
theorem dX3_warmThese_4 : decode cX3_warmThese 4 = .ok (.getfield 12, 3) := by decide +kernel
theorem dX3_warmThese_7 : decode cX3_warmThese 7 = .ok (.getfield 34, 3) := by decide +kernel
theorem dX3_warmThese_10 : decode cX3_warmThese 10 = .ok (.if_icmp .ge 28, 3) := by decide +kernel
theorem dX3_warmThese_13 : decode cX3_warmThese 13 = .ok (.iload_n 1, 1) := by decide +kernel
theorem dX3_warmThese_14 : decode cX3_warmThese 14 = .ok (.iload_n 2, 1) := by decide +kernel
theorem dX3_warmThese_15 : decode cX3_warmThese 15 = .ok (.ishr, 1) := by decide +kernel
theorem dX3_warmThese_16 : decode cX3_warmThese 16 = .ok (.iconst 1, 1) := by decide +kernel
theorem dX3_warmThese_17 : decode cX3_warmThese 17 = .ok (.iand, 1) := by decide +kernel
theorem dX3_warmThese_18 : decode cX3_warmThese 18 = .ok (.iconst 1, 1) := by decide +kernel
theorem dX3_warmThese_19 : decode cX3_warmThese 19 = .ok (.if_icmp .ne 13, 3) := by decide +kernel
theorem dX3_warmThese_22 : decode cX3_warmThese 22 = .ok (.aload_n 0, 1) := by decide +kernel
theorem dX3_warmThese_23 : decode cX3_warmThese 23 = .ok (.getfield 12, 3) := by decide +kernel
theorem dX3_warmThese_26 : decode cX3_warmThese 26 = .ok (.iload_n 2, 1) := by decide +kernel
theorem dX3_warmThese_27 : decode cX3_warmThese 27 = .ok (.bipush 20, 2) := by decide +kernel
theorem dX3_warmThese_29 : decode cX3_warmThese 29 = .ok (.invokevirtual 37, 3) := by decide +kernel
theorem dX3_warmThese_32 : decode cX3_warmThese 32 = .ok (.iinc 2 1, 3) := by decide +kernel
theorem dX3_warmThese_35 : decode cX3_warmThese 35 = .ok (.goto (-33), 3) := by decide +kernel
theorem dX3_warmThese_38 : decode cX3_warmThese 38 = .ok (.return_, 1) := by decide +kernel
theorem dX3_bestAway_0 : decode cX3_bestAway 0 = .ok (.iconst (-1), 1) := by decide +kernel
theorem dX3_bestAway_1 : decode cX3_bestAway 1 = .ok (.istore_n 3, 1) := by decide +kernel
theorem dX3_bestAway_2 : decode cX3_bestAway 2 = .ok (.iconst 0, 1) := by decide +kernel
theorem dX3_bestAway_3 : decode cX3_bestAway 3 = .ok (.istore 4, 2) := by decide +kernel
theorem dX3_bestAway_5 : decode cX3_bestAway 5 = .ok (.iconst 0, 1) := by decide +kernel
theorem dX3_bestAway_6 : decode cX3_bestAway 6 = .ok (.istore 5, 2) := by decide +kernel
theorem dX3_bestAway_8 : decode cX3_bestAway 8 = .ok (.iload 5, 2) := by decide +kernel
theorem dX3_bestAway_10 : decode cX3_bestAway 10 = .ok (.aload_n 1, 1) := by decide +kernel
theorem dX3_bestAway_11 : decode cX3_bestAway 11 = .ok (.getfield 34, 3) := by decide +kernel
theorem dX3_bestAway_14 : decode cX3_bestAway 14 = .ok (.if_icmp .ge 71, 3) := by decide +kernel
theorem dX3_bestAway_17 : decode cX3_bestAway 17 = .ok (.aload_n 0, 1) := by decide +kernel
theorem dX3_bestAway_18 : decode cX3_bestAway 18 = .ok (.aload_n 1, 1) := by decide +kernel
theorem dX3_bestAway_19 : decode cX3_bestAway 19 = .ok (.invokevirtual 26, 3) := by decide +kernel
theorem dX3_bestAway_22 : decode cX3_bestAway 22 = .ok (.pop, 1) := by decide +kernel
theorem dX3_bestAway_23 : decode cX3_bestAway 23 = .ok (.aload_n 0, 1) := by decide +kernel
theorem dX3_bestAway_24 : decode cX3_bestAway 24 = .ok (.getfield 12, 3) := by decide +kernel
theorem dX3_bestAway_27 : decode cX3_bestAway 27 = .ok (.iload 5, 2) := by decide +kernel
theorem dX3_bestAway_29 : decode cX3_bestAway 29 = .ok (.invokevirtual 50, 3) := by decide +kernel
theorem dX3_bestAway_32 : decode cX3_bestAway 32 = .ok (.aload_n 0, 1) := by decide +kernel
theorem dX3_bestAway_33 : decode cX3_bestAway 33 = .ok (.getfield 12, 3) := by decide +kernel
theorem dX3_bestAway_36 : decode cX3_bestAway 36 = .ok (.bipush 60, 2) := by decide +kernel
theorem dX3_bestAway_38 : decode cX3_bestAway 38 = .ok (.invokevirtual 30, 3) := by decide +kernel
theorem dX3_bestAway_41 : decode cX3_bestAway 41 = .ok (.invokestatic 53, 3) := by decide +kernel
theorem dX3_bestAway_44 : decode cX3_bestAway 44 = .ok (.istore 6, 2) := by decide +kernel
theorem dX3_bestAway_46 : decode cX3_bestAway 46 = .ok (.iload_n 3, 1) := by decide +kernel
theorem dX3_bestAway_47 : decode cX3_bestAway 47 = .ok (.iconst (-1), 1) := by decide +kernel
theorem dX3_bestAway_48 : decode cX3_bestAway 48 = .ok (.if_icmp .eq 24, 3) := by decide +kernel
theorem dX3_bestAway_51 : decode cX3_bestAway 51 = .ok (.iload_n 2, 1) := by decide +kernel
theorem dX3_bestAway_52 : decode cX3_bestAway 52 = .ok (.ifCond .eq 13, 3) := by decide +kernel
theorem dX3_bestAway_55 : decode cX3_bestAway 55 = .ok (.iload 6, 2) := by decide +kernel
theorem dX3_bestAway_57 : decode cX3_bestAway 57 = .ok (.iload 4, 2) := by decide +kernel
theorem dX3_bestAway_59 : decode cX3_bestAway 59 = .ok (.if_icmp .le 20, 3) := by decide +kernel
theorem dX3_bestAway_62 : decode cX3_bestAway 62 = .ok (.goto 10, 3) := by decide +kernel
theorem dX3_bestAway_65 : decode cX3_bestAway 65 = .ok (.iload 6, 2) := by decide +kernel
theorem dX3_bestAway_67 : decode cX3_bestAway 67 = .ok (.iload 4, 2) := by decide +kernel
theorem dX3_bestAway_69 : decode cX3_bestAway 69 = .ok (.if_icmp .ge 10, 3) := by decide +kernel
theorem dX3_bestAway_72 : decode cX3_bestAway 72 = .ok (.iload 5, 2) := by decide +kernel
theorem dX3_bestAway_74 : decode cX3_bestAway 74 = .ok (.istore_n 3, 1) := by decide +kernel
theorem dX3_bestAway_75 : decode cX3_bestAway 75 = .ok (.iload 6, 2) := by decide +kernel
theorem dX3_bestAway_77 : decode cX3_bestAway 77 = .ok (.istore 4, 2) := by decide +kernel
theorem dX3_bestAway_79 : decode cX3_bestAway 79 = .ok (.iinc 5 1, 3) := by decide +kernel
theorem dX3_bestAway_82 : decode cX3_bestAway 82 = .ok (.goto (-74), 3) := by decide +kernel
theorem dX3_bestAway_85 : decode cX3_bestAway 85 = .ok (.iload_n 3, 1) := by decide +kernel
theorem dX3_bestAway_86 : decode cX3_bestAway 86 = .ok (.ireturn, 1) := by decide +kernel
theorem dX3_noneAsLast_0 : decode cX3_noneAsLast 0 = .ok (.iload_n 0, 1) := by decide +kernel
theorem dX3_noneAsLast_1 : decode cX3_noneAsLast 1 = .ok (.iconst (-1), 1) := by decide +kernel
theorem dX3_noneAsLast_2 : decode cX3_noneAsLast 2 = .ok (.if_icmp .ne 8, 3) := by decide +kernel
theorem dX3_noneAsLast_5 : decode cX3_noneAsLast 5 = .ok (.bipush 61, 2) := by decide +kernel
theorem dX3_noneAsLast_7 : decode cX3_noneAsLast 7 = .ok (.goto 4, 3) := by decide +kernel
theorem dX3_noneAsLast_10 : decode cX3_noneAsLast 10 = .ok (.iload_n 0, 1) := by decide +kernel
theorem dX3_noneAsLast_11 : decode cX3_noneAsLast 11 = .ok (.ireturn, 1) := by decide +kernel
theorem dX3_firstHeard_0 : decode cX3_firstHeard 0 = .ok (.aload_n 0, 1) := by decide +kernel
theorem dX3_firstHeard_1 : decode cX3_firstHeard 1 = .ok (.aload_n 1, 1) := by decide +kernel
theorem dX3_firstHeard_2 : decode cX3_firstHeard 2 = .ok (.invokevirtual 26, 3) := by decide +kernel
theorem dX3_firstHeard_5 : decode cX3_firstHeard 5 = .ok (.pop, 1) := by decide +kernel
theorem dX3_firstHeard_6 : decode cX3_firstHeard 6 = .ok (.iconst 0, 1) := by decide +kernel
theorem dX3_firstHeard_7 : decode cX3_firstHeard 7 = .ok (.istore_n 3, 1) := by decide +kernel
theorem dX3_firstHeard_8 : decode cX3_firstHeard 8 = .ok (.iload_n 3, 1) := by decide +kernel
theorem dX3_firstHeard_9 : decode cX3_firstHeard 9 = .ok (.bipush 60, 2) := by decide +kernel
theorem dX3_firstHeard_11 : decode cX3_firstHeard 11 = .ok (.if_icmp .gt 30, 3) := by decide +kernel
theorem dX3_firstHeard_14 : decode cX3_firstHeard 14 = .ok (.aload_n 0, 1) := by decide +kernel
theorem dX3_firstHeard_15 : decode cX3_firstHeard 15 = .ok (.getfield 12, 3) := by decide +kernel
theorem dX3_firstHeard_18 : decode cX3_firstHeard 18 = .ok (.iload_n 2, 1) := by decide +kernel
theorem dX3_firstHeard_19 : decode cX3_firstHeard 19 = .ok (.invokevirtual 56, 3) := by decide +kernel
theorem dX3_firstHeard_22 : decode cX3_firstHeard 22 = .ok (.ifCond .eq 5, 3) := by decide +kernel
theorem dX3_firstHeard_25 : decode cX3_firstHeard 25 = .ok (.iload_n 3, 1) := by decide +kernel
theorem dX3_firstHeard_26 : decode cX3_firstHeard 26 = .ok (.ireturn, 1) := by decide +kernel
theorem dX3_firstHeard_27 : decode cX3_firstHeard 27 = .ok (.aload_n 0, 1) := by decide +kernel
theorem dX3_firstHeard_28 : decode cX3_firstHeard 28 = .ok (.getfield 12, 3) := by decide +kernel
theorem dX3_firstHeard_31 : decode cX3_firstHeard 31 = .ok (.iconst 1, 1) := by decide +kernel
theorem dX3_firstHeard_32 : decode cX3_firstHeard 32 = .ok (.invokevirtual 60, 3) := by decide +kernel
theorem dX3_firstHeard_35 : decode cX3_firstHeard 35 = .ok (.iinc 3 1, 3) := by decide +kernel
theorem dX3_firstHeard_38 : decode cX3_firstHeard 38 = .ok (.goto (-30), 3) := by decide +kernel
theorem dX3_firstHeard_41 : decode cX3_firstHeard 41 = .ok (.iconst (-1), 1) := by decide +kernel
theorem dX3_firstHeard_42 : decode cX3_firstHeard 42 = .ok (.ireturn, 1) := by decide +kernel
theorem dX3_bestHolder_0 : decode cX3_bestHolder 0 = .ok (.iconst (-1), 1) := by decide +kernel
theorem dX3_bestHolder_1 : decode cX3_bestHolder 1 = .ok (.istore_n 3, 1) := by decide +kernel
theorem dX3_bestHolder_2 : decode cX3_bestHolder 2 = .ok (.iconst 0, 1) := by decide +kernel
theorem dX3_bestHolder_3 : decode cX3_bestHolder 3 = .ok (.istore 4, 2) := by decide +kernel
theorem dX3_bestHolder_5 : decode cX3_bestHolder 5 = .ok (.iconst 0, 1) := by decide +kernel
theorem dX3_bestHolder_6 : decode cX3_bestHolder 6 = .ok (.istore 5, 2) := by decide +kernel
theorem dX3_bestHolder_8 : decode cX3_bestHolder 8 = .ok (.iload 5, 2) := by decide +kernel
theorem dX3_bestHolder_10 : decode cX3_bestHolder 10 = .ok (.aload_n 1, 1) := by decide +kernel
theorem dX3_bestHolder_11 : decode cX3_bestHolder 11 = .ok (.getfield 34, 3) := by decide +kernel
theorem dX3_bestHolder_14 : decode cX3_bestHolder 14 = .ok (.if_icmp .ge 54, 3) := by decide +kernel
theorem dX3_bestHolder_17 : decode cX3_bestHolder 17 = .ok (.aload_n 0, 1) := by decide +kernel
theorem dX3_bestHolder_18 : decode cX3_bestHolder 18 = .ok (.aload_n 1, 1) := by decide +kernel
theorem dX3_bestHolder_19 : decode cX3_bestHolder 19 = .ok (.iload 5, 2) := by decide +kernel
theorem dX3_bestHolder_21 : decode cX3_bestHolder 21 = .ok (.invokevirtual 63, 3) := by decide +kernel
theorem dX3_bestHolder_24 : decode cX3_bestHolder 24 = .ok (.invokestatic 53, 3) := by decide +kernel
theorem dX3_bestHolder_27 : decode cX3_bestHolder 27 = .ok (.istore 6, 2) := by decide +kernel
theorem dX3_bestHolder_29 : decode cX3_bestHolder 29 = .ok (.iload_n 3, 1) := by decide +kernel
theorem dX3_bestHolder_30 : decode cX3_bestHolder 30 = .ok (.iconst (-1), 1) := by decide +kernel
theorem dX3_bestHolder_31 : decode cX3_bestHolder 31 = .ok (.if_icmp .eq 24, 3) := by decide +kernel
theorem dX3_bestHolder_34 : decode cX3_bestHolder 34 = .ok (.iload_n 2, 1) := by decide +kernel
theorem dX3_bestHolder_35 : decode cX3_bestHolder 35 = .ok (.ifCond .eq 13, 3) := by decide +kernel
theorem dX3_bestHolder_38 : decode cX3_bestHolder 38 = .ok (.iload 6, 2) := by decide +kernel
theorem dX3_bestHolder_40 : decode cX3_bestHolder 40 = .ok (.iload 4, 2) := by decide +kernel
theorem dX3_bestHolder_42 : decode cX3_bestHolder 42 = .ok (.if_icmp .le 20, 3) := by decide +kernel
theorem dX3_bestHolder_45 : decode cX3_bestHolder 45 = .ok (.goto 10, 3) := by decide +kernel
theorem dX3_bestHolder_48 : decode cX3_bestHolder 48 = .ok (.iload 6, 2) := by decide +kernel
theorem dX3_bestHolder_50 : decode cX3_bestHolder 50 = .ok (.iload 4, 2) := by decide +kernel
theorem dX3_bestHolder_52 : decode cX3_bestHolder 52 = .ok (.if_icmp .ge 10, 3) := by decide +kernel
theorem dX3_bestHolder_55 : decode cX3_bestHolder 55 = .ok (.iload 5, 2) := by decide +kernel
theorem dX3_bestHolder_57 : decode cX3_bestHolder 57 = .ok (.istore_n 3, 1) := by decide +kernel
theorem dX3_bestHolder_58 : decode cX3_bestHolder 58 = .ok (.iload 6, 2) := by decide +kernel
theorem dX3_bestHolder_60 : decode cX3_bestHolder 60 = .ok (.istore 4, 2) := by decide +kernel
theorem dX3_bestHolder_62 : decode cX3_bestHolder 62 = .ok (.iinc 5 1, 3) := by decide +kernel
theorem dX3_bestHolder_65 : decode cX3_bestHolder 65 = .ok (.goto (-57), 3) := by decide +kernel
theorem dX3_bestHolder_68 : decode cX3_bestHolder 68 = .ok (.iload_n 3, 1) := by decide +kernel
theorem dX3_bestHolder_69 : decode cX3_bestHolder 69 = .ok (.ireturn, 1) := by decide +kernel
theorem dX3_pridesBy_0 : decode cX3_pridesBy 0 = .ok (.iconst 0, 1) := by decide +kernel
theorem dX3_pridesBy_1 : decode cX3_pridesBy 1 = .ok (.istore 5, 2) := by decide +kernel
theorem dX3_pridesBy_3 : decode cX3_pridesBy 3 = .ok (.aload_n 0, 1) := by decide +kernel
theorem dX3_pridesBy_4 : decode cX3_pridesBy 4 = .ok (.aload_n 1, 1) := by decide +kernel
theorem dX3_pridesBy_5 : decode cX3_pridesBy 5 = .ok (.invokevirtual 26, 3) := by decide +kernel
theorem dX3_pridesBy_8 : decode cX3_pridesBy 8 = .ok (.pop, 1) := by decide +kernel
theorem dX3_pridesBy_9 : decode cX3_pridesBy 9 = .ok (.iconst 0, 1) := by decide +kernel
theorem dX3_pridesBy_10 : decode cX3_pridesBy 10 = .ok (.istore 6, 2) := by decide +kernel
theorem dX3_pridesBy_12 : decode cX3_pridesBy 12 = .ok (.iload 6, 2) := by decide +kernel
theorem dX3_pridesBy_14 : decode cX3_pridesBy 14 = .ok (.bipush 20, 2) := by decide +kernel
theorem dX3_pridesBy_16 : decode cX3_pridesBy 16 = .ok (.if_icmp .gt 31, 3) := by decide +kernel
theorem dX3_pridesBy_19 : decode cX3_pridesBy 19 = .ok (.aload_n 0, 1) := by decide +kernel
theorem dX3_pridesBy_20 : decode cX3_pridesBy 20 = .ok (.aload_n 2, 1) := by decide +kernel
theorem dX3_pridesBy_21 : decode cX3_pridesBy 21 = .ok (.iload_n 3, 1) := by decide +kernel
theorem dX3_pridesBy_22 : decode cX3_pridesBy 22 = .ok (.iload 4, 2) := by decide +kernel
theorem dX3_pridesBy_24 : decode cX3_pridesBy 24 = .ok (.iload 6, 2) := by decide +kernel
theorem dX3_pridesBy_26 : decode cX3_pridesBy 26 = .ok (.invokevirtual 67, 3) := by decide +kernel
theorem dX3_pridesBy_29 : decode cX3_pridesBy 29 = .ok (.ifCond .eq 12, 3) := by decide +kernel
theorem dX3_pridesBy_32 : decode cX3_pridesBy 32 = .ok (.iload 5, 2) := by decide +kernel
theorem dX3_pridesBy_34 : decode cX3_pridesBy 34 = .ok (.iconst 1, 1) := by decide +kernel
theorem dX3_pridesBy_35 : decode cX3_pridesBy 35 = .ok (.iload 6, 2) := by decide +kernel
theorem dX3_pridesBy_37 : decode cX3_pridesBy 37 = .ok (.ishl, 1) := by decide +kernel
theorem dX3_pridesBy_38 : decode cX3_pridesBy 38 = .ok (.ior, 1) := by decide +kernel
theorem dX3_pridesBy_39 : decode cX3_pridesBy 39 = .ok (.istore 5, 2) := by decide +kernel
theorem dX3_pridesBy_41 : decode cX3_pridesBy 41 = .ok (.iinc 6 1, 3) := by decide +kernel
theorem dX3_pridesBy_44 : decode cX3_pridesBy 44 = .ok (.goto (-32), 3) := by decide +kernel
theorem dX3_pridesBy_47 : decode cX3_pridesBy 47 = .ok (.iload 5, 2) := by decide +kernel
theorem dX3_pridesBy_49 : decode cX3_pridesBy 49 = .ok (.ireturn, 1) := by decide +kernel
theorem dX3_agreesPride_0 : decode cX3_agreesPride 0 = .ok (.aload_n 0, 1) := by decide +kernel
theorem dX3_agreesPride_1 : decode cX3_agreesPride 1 = .ok (.getfield 12, 3) := by decide +kernel
theorem dX3_agreesPride_4 : decode cX3_agreesPride 4 = .ok (.getfield 71, 3) := by decide +kernel
theorem dX3_agreesPride_7 : decode cX3_agreesPride 7 = .ok (.iload_n 3, 1) := by decide +kernel
theorem dX3_agreesPride_8 : decode cX3_agreesPride 8 = .ok (.iload 4, 2) := by decide +kernel
theorem dX3_agreesPride_10 : decode cX3_agreesPride 10 = .ok (.iastore, 1) := by decide +kernel
theorem dX3_agreesPride_11 : decode cX3_agreesPride 11 = .ok (.iconst 0, 1) := by decide +kernel
theorem dX3_agreesPride_12 : decode cX3_agreesPride 12 = .ok (.istore 5, 2) := by decide +kernel
theorem dX3_agreesPride_14 : decode cX3_agreesPride 14 = .ok (.iload 5, 2) := by decide +kernel
theorem dX3_agreesPride_16 : decode cX3_agreesPride 16 = .ok (.iload_n 2, 1) := by decide +kernel
theorem dX3_agreesPride_17 : decode cX3_agreesPride 17 = .ok (.if_icmp .ge 53, 3) := by decide +kernel
theorem dX3_agreesPride_20 : decode cX3_agreesPride 20 = .ok (.aload_n 0, 1) := by decide +kernel
theorem dX3_agreesPride_21 : decode cX3_agreesPride 21 = .ok (.getfield 12, 3) := by decide +kernel
theorem dX3_agreesPride_24 : decode cX3_agreesPride 24 = .ok (.aload_n 1, 1) := by decide +kernel
theorem dX3_agreesPride_25 : decode cX3_agreesPride 25 = .ok (.iconst 2, 1) := by decide +kernel
theorem dX3_agreesPride_26 : decode cX3_agreesPride 26 = .ok (.iload 5, 2) := by decide +kernel
theorem dX3_agreesPride_28 : decode cX3_agreesPride 28 = .ok (.imul, 1) := by decide +kernel
theorem dX3_agreesPride_29 : decode cX3_agreesPride 29 = .ok (.invokevirtual 75, 3) := by decide +kernel
theorem dX3_agreesPride_32 : decode cX3_agreesPride 32 = .ok (.l2i, 1) := by decide +kernel
theorem dX3_agreesPride_33 : decode cX3_agreesPride 33 = .ok (.putfield 81, 3) := by decide +kernel
theorem dX3_agreesPride_36 : decode cX3_agreesPride 36 = .ok (.aload_n 0, 1) := by decide +kernel
theorem dX3_agreesPride_37 : decode cX3_agreesPride 37 = .ok (.getfield 12, 3) := by decide +kernel
theorem dX3_agreesPride_40 : decode cX3_agreesPride 40 = .ok (.iload_n 3, 1) := by decide +kernel
theorem dX3_agreesPride_41 : decode cX3_agreesPride 41 = .ok (.invokevirtual 56, 3) := by decide +kernel
theorem dX3_agreesPride_44 : decode cX3_agreesPride 44 = .ok (.invokestatic 84, 3) := by decide +kernel
theorem dX3_agreesPride_47 : decode cX3_agreesPride 47 = .ok (.i2l, 1) := by decide +kernel
theorem dX3_agreesPride_48 : decode cX3_agreesPride 48 = .ok (.aload_n 1, 1) := by decide +kernel
theorem dX3_agreesPride_49 : decode cX3_agreesPride 49 = .ok (.iconst 2, 1) := by decide +kernel
theorem dX3_agreesPride_50 : decode cX3_agreesPride 50 = .ok (.iload 5, 2) := by decide +kernel
theorem dX3_agreesPride_52 : decode cX3_agreesPride 52 = .ok (.imul, 1) := by decide +kernel
theorem dX3_agreesPride_53 : decode cX3_agreesPride 53 = .ok (.iconst 1, 1) := by decide +kernel
theorem dX3_agreesPride_54 : decode cX3_agreesPride 54 = .ok (.iadd, 1) := by decide +kernel
theorem dX3_agreesPride_55 : decode cX3_agreesPride 55 = .ok (.invokevirtual 75, 3) := by decide +kernel
theorem dX3_agreesPride_58 : decode cX3_agreesPride 58 = .ok (.lcmp, 1) := by decide +kernel
theorem dX3_agreesPride_59 : decode cX3_agreesPride 59 = .ok (.ifCond .eq 5, 3) := by decide +kernel
theorem dX3_agreesPride_62 : decode cX3_agreesPride 62 = .ok (.iconst 0, 1) := by decide +kernel
theorem dX3_agreesPride_63 : decode cX3_agreesPride 63 = .ok (.ireturn, 1) := by decide +kernel
theorem dX3_agreesPride_64 : decode cX3_agreesPride 64 = .ok (.iinc 5 1, 3) := by decide +kernel
theorem dX3_agreesPride_67 : decode cX3_agreesPride 67 = .ok (.goto (-53), 3) := by decide +kernel
theorem dX3_agreesPride_70 : decode cX3_agreesPride 70 = .ok (.iconst 1, 1) := by decide +kernel
theorem dX3_agreesPride_71 : decode cX3_agreesPride 71 = .ok (.ireturn, 1) := by decide +kernel
theorem dX3_kindsBy_0 : decode cX3_kindsBy 0 = .ok (.iconst 0, 1) := by decide +kernel
theorem dX3_kindsBy_1 : decode cX3_kindsBy 1 = .ok (.istore 5, 2) := by decide +kernel
theorem dX3_kindsBy_3 : decode cX3_kindsBy 3 = .ok (.aload_n 0, 1) := by decide +kernel
theorem dX3_kindsBy_4 : decode cX3_kindsBy 4 = .ok (.aload_n 1, 1) := by decide +kernel
theorem dX3_kindsBy_5 : decode cX3_kindsBy 5 = .ok (.invokevirtual 26, 3) := by decide +kernel
theorem dX3_kindsBy_8 : decode cX3_kindsBy 8 = .ok (.pop, 1) := by decide +kernel
theorem dX3_kindsBy_9 : decode cX3_kindsBy 9 = .ok (.iconst 0, 1) := by decide +kernel
theorem dX3_kindsBy_10 : decode cX3_kindsBy 10 = .ok (.istore 6, 2) := by decide +kernel
theorem dX3_kindsBy_12 : decode cX3_kindsBy 12 = .ok (.iload 6, 2) := by decide +kernel
theorem dX3_kindsBy_14 : decode cX3_kindsBy 14 = .ok (.bipush 6, 2) := by decide +kernel
theorem dX3_kindsBy_16 : decode cX3_kindsBy 16 = .ok (.if_icmp .ge 31, 3) := by decide +kernel
theorem dX3_kindsBy_19 : decode cX3_kindsBy 19 = .ok (.aload_n 0, 1) := by decide +kernel
theorem dX3_kindsBy_20 : decode cX3_kindsBy 20 = .ok (.aload_n 2, 1) := by decide +kernel
theorem dX3_kindsBy_21 : decode cX3_kindsBy 21 = .ok (.iload_n 3, 1) := by decide +kernel
theorem dX3_kindsBy_22 : decode cX3_kindsBy 22 = .ok (.iload 4, 2) := by decide +kernel
theorem dX3_kindsBy_24 : decode cX3_kindsBy 24 = .ok (.iload 6, 2) := by decide +kernel
theorem dX3_kindsBy_26 : decode cX3_kindsBy 26 = .ok (.invokevirtual 88, 3) := by decide +kernel
theorem dX3_kindsBy_29 : decode cX3_kindsBy 29 = .ok (.ifCond .eq 12, 3) := by decide +kernel
theorem dX3_kindsBy_32 : decode cX3_kindsBy 32 = .ok (.iload 5, 2) := by decide +kernel
theorem dX3_kindsBy_34 : decode cX3_kindsBy 34 = .ok (.iconst 1, 1) := by decide +kernel
theorem dX3_kindsBy_35 : decode cX3_kindsBy 35 = .ok (.iload 6, 2) := by decide +kernel
theorem dX3_kindsBy_37 : decode cX3_kindsBy 37 = .ok (.ishl, 1) := by decide +kernel
theorem dX3_kindsBy_38 : decode cX3_kindsBy 38 = .ok (.ior, 1) := by decide +kernel
theorem dX3_kindsBy_39 : decode cX3_kindsBy 39 = .ok (.istore 5, 2) := by decide +kernel
theorem dX3_kindsBy_41 : decode cX3_kindsBy 41 = .ok (.iinc 6 1, 3) := by decide +kernel
theorem dX3_kindsBy_44 : decode cX3_kindsBy 44 = .ok (.goto (-32), 3) := by decide +kernel
theorem dX3_kindsBy_47 : decode cX3_kindsBy 47 = .ok (.iload 5, 2) := by decide +kernel
theorem dX3_kindsBy_49 : decode cX3_kindsBy 49 = .ok (.ireturn, 1) := by decide +kernel
theorem dX3_agreesKind_0 : decode cX3_agreesKind 0 = .ok (.iconst 0, 1) := by decide +kernel
theorem dX3_agreesKind_1 : decode cX3_agreesKind 1 = .ok (.istore 5, 2) := by decide +kernel
theorem dX3_agreesKind_3 : decode cX3_agreesKind 3 = .ok (.iload 5, 2) := by decide +kernel
theorem dX3_agreesKind_5 : decode cX3_agreesKind 5 = .ok (.iload_n 2, 1) := by decide +kernel
theorem dX3_agreesKind_6 : decode cX3_agreesKind 6 = .ok (.if_icmp .ge 52, 3) := by decide +kernel
theorem dX3_agreesKind_9 : decode cX3_agreesKind 9 = .ok (.aload_n 0, 1) := by decide +kernel
theorem dX3_agreesKind_10 : decode cX3_agreesKind 10 = .ok (.getfield 12, 3) := by decide +kernel
theorem dX3_agreesKind_13 : decode cX3_agreesKind 13 = .ok (.aload_n 1, 1) := by decide +kernel
theorem dX3_agreesKind_14 : decode cX3_agreesKind 14 = .ok (.iconst 2, 1) := by decide +kernel
theorem dX3_agreesKind_15 : decode cX3_agreesKind 15 = .ok (.iload 5, 2) := by decide +kernel
theorem dX3_agreesKind_17 : decode cX3_agreesKind 17 = .ok (.imul, 1) := by decide +kernel
theorem dX3_agreesKind_18 : decode cX3_agreesKind 18 = .ok (.invokevirtual 75, 3) := by decide +kernel
theorem dX3_agreesKind_21 : decode cX3_agreesKind 21 = .ok (.l2i, 1) := by decide +kernel
theorem dX3_agreesKind_22 : decode cX3_agreesKind 22 = .ok (.putfield 81, 3) := by decide +kernel
theorem dX3_agreesKind_25 : decode cX3_agreesKind 25 = .ok (.aload_n 0, 1) := by decide +kernel
theorem dX3_agreesKind_26 : decode cX3_agreesKind 26 = .ok (.getfield 12, 3) := by decide +kernel
theorem dX3_agreesKind_29 : decode cX3_agreesKind 29 = .ok (.iload 4, 2) := by decide +kernel
theorem dX3_agreesKind_31 : decode cX3_agreesKind 31 = .ok (.iload_n 3, 1) := by decide +kernel
theorem dX3_agreesKind_32 : decode cX3_agreesKind 32 = .ok (.invokevirtual 91, 3) := by decide +kernel
theorem dX3_agreesKind_35 : decode cX3_agreesKind 35 = .ok (.i2l, 1) := by decide +kernel
theorem dX3_agreesKind_36 : decode cX3_agreesKind 36 = .ok (.aload_n 1, 1) := by decide +kernel
theorem dX3_agreesKind_37 : decode cX3_agreesKind 37 = .ok (.iconst 2, 1) := by decide +kernel
theorem dX3_agreesKind_38 : decode cX3_agreesKind 38 = .ok (.iload 5, 2) := by decide +kernel
theorem dX3_agreesKind_40 : decode cX3_agreesKind 40 = .ok (.imul, 1) := by decide +kernel
theorem dX3_agreesKind_41 : decode cX3_agreesKind 41 = .ok (.iconst 1, 1) := by decide +kernel
theorem dX3_agreesKind_42 : decode cX3_agreesKind 42 = .ok (.iadd, 1) := by decide +kernel
theorem dX3_agreesKind_43 : decode cX3_agreesKind 43 = .ok (.invokevirtual 75, 3) := by decide +kernel
theorem dX3_agreesKind_46 : decode cX3_agreesKind 46 = .ok (.lcmp, 1) := by decide +kernel
theorem dX3_agreesKind_47 : decode cX3_agreesKind 47 = .ok (.ifCond .eq 5, 3) := by decide +kernel
theorem dX3_agreesKind_50 : decode cX3_agreesKind 50 = .ok (.iconst 0, 1) := by decide +kernel
theorem dX3_agreesKind_51 : decode cX3_agreesKind 51 = .ok (.ireturn, 1) := by decide +kernel
theorem dX3_agreesKind_52 : decode cX3_agreesKind 52 = .ok (.iinc 5 1, 3) := by decide +kernel
theorem dX3_agreesKind_55 : decode cX3_agreesKind 55 = .ok (.goto (-52), 3) := by decide +kernel
theorem dX3_agreesKind_58 : decode cX3_agreesKind 58 = .ok (.iconst 1, 1) := by decide +kernel
theorem dX3_agreesKind_59 : decode cX3_agreesKind 59 = .ok (.ireturn, 1) := by decide +kernel
theorem dX3_feedAllQuiet_0 : decode cX3_feedAllQuiet 0 = .ok (.iconst 0, 1) := by decide +kernel
theorem dX3_feedAllQuiet_1 : decode cX3_feedAllQuiet 1 = .ok (.istore_n 2, 1) := by decide +kernel
theorem dX3_feedAllQuiet_2 : decode cX3_feedAllQuiet 2 = .ok (.aload_n 0, 1) := by decide +kernel
theorem dX3_feedAllQuiet_3 : decode cX3_feedAllQuiet 3 = .ok (.aload_n 1, 1) := by decide +kernel
theorem dX3_feedAllQuiet_4 : decode cX3_feedAllQuiet 4 = .ok (.invokevirtual 26, 3) := by decide +kernel
theorem dX3_feedAllQuiet_7 : decode cX3_feedAllQuiet 7 = .ok (.pop, 1) := by decide +kernel
theorem dX3_feedAllQuiet_8 : decode cX3_feedAllQuiet 8 = .ok (.iconst 0, 1) := by decide +kernel
theorem dX3_feedAllQuiet_9 : decode cX3_feedAllQuiet 9 = .ok (.istore_n 3, 1) := by decide +kernel
theorem dX3_feedAllQuiet_10 : decode cX3_feedAllQuiet 10 = .ok (.iload_n 3, 1) := by decide +kernel
theorem dX3_feedAllQuiet_11 : decode cX3_feedAllQuiet 11 = .ok (.aload_n 1, 1) := by decide +kernel
theorem dX3_feedAllQuiet_12 : decode cX3_feedAllQuiet 12 = .ok (.getfield 34, 3) := by decide +kernel
theorem dX3_feedAllQuiet_15 : decode cX3_feedAllQuiet 15 = .ok (.if_icmp .ge 66, 3) := by decide +kernel
theorem dX3_feedAllQuiet_18 : decode cX3_feedAllQuiet 18 = .ok (.aload_n 0, 1) := by decide +kernel
theorem dX3_feedAllQuiet_19 : decode cX3_feedAllQuiet 19 = .ok (.getfield 12, 3) := by decide +kernel
theorem dX3_feedAllQuiet_22 : decode cX3_feedAllQuiet 22 = .ok (.iload_n 3, 1) := by decide +kernel
theorem dX3_feedAllQuiet_23 : decode cX3_feedAllQuiet 23 = .ok (.invokevirtual 56, 3) := by decide +kernel
theorem dX3_feedAllQuiet_26 : decode cX3_feedAllQuiet 26 = .ok (.ifCond .eq 36, 3) := by decide +kernel
theorem dX3_feedAllQuiet_29 : decode cX3_feedAllQuiet 29 = .ok (.aload_n 0, 1) := by decide +kernel
theorem dX3_feedAllQuiet_30 : decode cX3_feedAllQuiet 30 = .ok (.getfield 12, 3) := by decide +kernel
theorem dX3_feedAllQuiet_33 : decode cX3_feedAllQuiet 33 = .ok (.getfield 95, 3) := by decide +kernel
theorem dX3_feedAllQuiet_36 : decode cX3_feedAllQuiet 36 = .ok (.iload_n 3, 1) := by decide +kernel
theorem dX3_feedAllQuiet_37 : decode cX3_feedAllQuiet 37 = .ok (.iaload, 1) := by decide +kernel
theorem dX3_feedAllQuiet_38 : decode cX3_feedAllQuiet 38 = .ok (.bipush 40, 2) := by decide +kernel
theorem dX3_feedAllQuiet_40 : decode cX3_feedAllQuiet 40 = .ok (.if_icmp .ge 22, 3) := by decide +kernel
theorem dX3_feedAllQuiet_43 : decode cX3_feedAllQuiet 43 = .ok (.aload_n 0, 1) := by decide +kernel
theorem dX3_feedAllQuiet_44 : decode cX3_feedAllQuiet 44 = .ok (.getfield 12, 3) := by decide +kernel
theorem dX3_feedAllQuiet_47 : decode cX3_feedAllQuiet 47 = .ok (.getfield 95, 3) := by decide +kernel
theorem dX3_feedAllQuiet_50 : decode cX3_feedAllQuiet 50 = .ok (.iload_n 3, 1) := by decide +kernel
theorem dX3_feedAllQuiet_51 : decode cX3_feedAllQuiet 51 = .ok (.dup2, 1) := by decide +kernel
theorem dX3_feedAllQuiet_52 : decode cX3_feedAllQuiet 52 = .ok (.iaload, 1) := by decide +kernel
theorem dX3_feedAllQuiet_53 : decode cX3_feedAllQuiet 53 = .ok (.iconst 1, 1) := by decide +kernel
theorem dX3_feedAllQuiet_54 : decode cX3_feedAllQuiet 54 = .ok (.iadd, 1) := by decide +kernel
theorem dX3_feedAllQuiet_55 : decode cX3_feedAllQuiet 55 = .ok (.iastore, 1) := by decide +kernel
theorem dX3_feedAllQuiet_56 : decode cX3_feedAllQuiet 56 = .ok (.iinc 2 1, 3) := by decide +kernel
theorem dX3_feedAllQuiet_59 : decode cX3_feedAllQuiet 59 = .ok (.goto (-41), 3) := by decide +kernel
theorem dX3_feedAllQuiet_62 : decode cX3_feedAllQuiet 62 = .ok (.aload_n 0, 1) := by decide +kernel
theorem dX3_feedAllQuiet_63 : decode cX3_feedAllQuiet 63 = .ok (.getfield 12, 3) := by decide +kernel
theorem dX3_feedAllQuiet_66 : decode cX3_feedAllQuiet 66 = .ok (.iload_n 3, 1) := by decide +kernel
theorem dX3_feedAllQuiet_67 : decode cX3_feedAllQuiet 67 = .ok (.invokevirtual 56, 3) := by decide +kernel
theorem dX3_feedAllQuiet_70 : decode cX3_feedAllQuiet 70 = .ok (.ifCond .eq 5, 3) := by decide +kernel
theorem dX3_feedAllQuiet_73 : decode cX3_feedAllQuiet 73 = .ok (.iconst (-1), 1) := by decide +kernel
theorem dX3_feedAllQuiet_74 : decode cX3_feedAllQuiet 74 = .ok (.ireturn, 1) := by decide +kernel
theorem dX3_feedAllQuiet_75 : decode cX3_feedAllQuiet 75 = .ok (.iinc 3 1, 3) := by decide +kernel
theorem dX3_feedAllQuiet_78 : decode cX3_feedAllQuiet 78 = .ok (.goto (-68), 3) := by decide +kernel
theorem dX3_feedAllQuiet_81 : decode cX3_feedAllQuiet 81 = .ok (.iload_n 2, 1) := by decide +kernel
theorem dX3_feedAllQuiet_82 : decode cX3_feedAllQuiet 82 = .ok (.ireturn, 1) := by decide +kernel
theorem dX3_leastForEach_0 : decode cX3_leastForEach 0 = .ok (.iconst 0, 1) := by decide +kernel
theorem dX3_leastForEach_1 : decode cX3_leastForEach 1 = .ok (.istore_n 3, 1) := by decide +kernel
theorem dX3_leastForEach_2 : decode cX3_leastForEach 2 = .ok (.iload_n 3, 1) := by decide +kernel
theorem dX3_leastForEach_3 : decode cX3_leastForEach 3 = .ok (.bipush 40, 2) := by decide +kernel
theorem dX3_leastForEach_5 : decode cX3_leastForEach 5 = .ok (.if_icmp .gt 57, 3) := by decide +kernel
theorem dX3_leastForEach_8 : decode cX3_leastForEach 8 = .ok (.aload_n 0, 1) := by decide +kernel
theorem dX3_leastForEach_9 : decode cX3_leastForEach 9 = .ok (.aload_n 1, 1) := by decide +kernel
theorem dX3_leastForEach_10 : decode cX3_leastForEach 10 = .ok (.invokevirtual 26, 3) := by decide +kernel
theorem dX3_leastForEach_13 : decode cX3_leastForEach 13 = .ok (.pop, 1) := by decide +kernel
theorem dX3_leastForEach_14 : decode cX3_leastForEach 14 = .ok (.iconst 0, 1) := by decide +kernel
theorem dX3_leastForEach_15 : decode cX3_leastForEach 15 = .ok (.istore 4, 2) := by decide +kernel
theorem dX3_leastForEach_17 : decode cX3_leastForEach 17 = .ok (.iload 4, 2) := by decide +kernel
theorem dX3_leastForEach_19 : decode cX3_leastForEach 19 = .ok (.aload_n 1, 1) := by decide +kernel
theorem dX3_leastForEach_20 : decode cX3_leastForEach 20 = .ok (.getfield 34, 3) := by decide +kernel
theorem dX3_leastForEach_23 : decode cX3_leastForEach 23 = .ok (.if_icmp .ge 19, 3) := by decide +kernel
theorem dX3_leastForEach_26 : decode cX3_leastForEach 26 = .ok (.aload_n 0, 1) := by decide +kernel
theorem dX3_leastForEach_27 : decode cX3_leastForEach 27 = .ok (.getfield 12, 3) := by decide +kernel
theorem dX3_leastForEach_30 : decode cX3_leastForEach 30 = .ok (.iload 4, 2) := by decide +kernel
theorem dX3_leastForEach_32 : decode cX3_leastForEach 32 = .ok (.iload_n 3, 1) := by decide +kernel
theorem dX3_leastForEach_33 : decode cX3_leastForEach 33 = .ok (.invokevirtual 37, 3) := by decide +kernel
theorem dX3_leastForEach_36 : decode cX3_leastForEach 36 = .ok (.iinc 4 1, 3) := by decide +kernel
theorem dX3_leastForEach_39 : decode cX3_leastForEach 39 = .ok (.goto (-22), 3) := by decide +kernel
theorem dX3_leastForEach_42 : decode cX3_leastForEach 42 = .ok (.aload_n 0, 1) := by decide +kernel
theorem dX3_leastForEach_43 : decode cX3_leastForEach 43 = .ok (.getfield 12, 3) := by decide +kernel
theorem dX3_leastForEach_46 : decode cX3_leastForEach 46 = .ok (.iload_n 2, 1) := by decide +kernel
theorem dX3_leastForEach_47 : decode cX3_leastForEach 47 = .ok (.invokevirtual 30, 3) := by decide +kernel
theorem dX3_leastForEach_50 : decode cX3_leastForEach 50 = .ok (.iconst (-1), 1) := by decide +kernel
theorem dX3_leastForEach_51 : decode cX3_leastForEach 51 = .ok (.if_icmp .ne 5, 3) := by decide +kernel
theorem dX3_leastForEach_54 : decode cX3_leastForEach 54 = .ok (.iload_n 3, 1) := by decide +kernel
theorem dX3_leastForEach_55 : decode cX3_leastForEach 55 = .ok (.ireturn, 1) := by decide +kernel
theorem dX3_leastForEach_56 : decode cX3_leastForEach 56 = .ok (.iinc 3 1, 3) := by decide +kernel
theorem dX3_leastForEach_59 : decode cX3_leastForEach 59 = .ok (.goto (-57), 3) := by decide +kernel
theorem dX3_leastForEach_62 : decode cX3_leastForEach 62 = .ok (.iconst (-1), 1) := by decide +kernel
theorem dX3_leastForEach_63 : decode cX3_leastForEach 63 = .ok (.ireturn, 1) := by decide +kernel
theorem dX3_firstWrong_0 : decode cX3_firstWrong 0 = .ok (.aload_n 0, 1) := by decide +kernel
theorem dX3_firstWrong_1 : decode cX3_firstWrong 1 = .ok (.aload_n 1, 1) := by decide +kernel
theorem dX3_firstWrong_2 : decode cX3_firstWrong 2 = .ok (.invokevirtual 26, 3) := by decide +kernel
theorem dX3_firstWrong_5 : decode cX3_firstWrong 5 = .ok (.pop, 1) := by decide +kernel
theorem dX3_firstWrong_6 : decode cX3_firstWrong 6 = .ok (.iconst 0, 1) := by decide +kernel
theorem dX3_firstWrong_7 : decode cX3_firstWrong 7 = .ok (.istore 4, 2) := by decide +kernel
theorem dX3_firstWrong_9 : decode cX3_firstWrong 9 = .ok (.iload 4, 2) := by decide +kernel
theorem dX3_firstWrong_11 : decode cX3_firstWrong 11 = .ok (.iload_n 3, 1) := by decide +kernel
theorem dX3_firstWrong_12 : decode cX3_firstWrong 12 = .ok (.if_icmp .ge 38, 3) := by decide +kernel
theorem dX3_firstWrong_15 : decode cX3_firstWrong 15 = .ok (.aload_n 2, 1) := by decide +kernel
theorem dX3_firstWrong_16 : decode cX3_firstWrong 16 = .ok (.iload 4, 2) := by decide +kernel
theorem dX3_firstWrong_18 : decode cX3_firstWrong 18 = .ok (.invokevirtual 75, 3) := by decide +kernel
theorem dX3_firstWrong_21 : decode cX3_firstWrong 21 = .ok (.aload_n 0, 1) := by decide +kernel
theorem dX3_firstWrong_22 : decode cX3_firstWrong 22 = .ok (.getfield 12, 3) := by decide +kernel
theorem dX3_firstWrong_25 : decode cX3_firstWrong 25 = .ok (.invokevirtual 98, 3) := by decide +kernel
theorem dX3_firstWrong_28 : decode cX3_firstWrong 28 = .ok (.i2l, 1) := by decide +kernel
theorem dX3_firstWrong_29 : decode cX3_firstWrong 29 = .ok (.lcmp, 1) := by decide +kernel
theorem dX3_firstWrong_30 : decode cX3_firstWrong 30 = .ok (.ifCond .eq 6, 3) := by decide +kernel
theorem dX3_firstWrong_33 : decode cX3_firstWrong 33 = .ok (.iload 4, 2) := by decide +kernel
theorem dX3_firstWrong_35 : decode cX3_firstWrong 35 = .ok (.ireturn, 1) := by decide +kernel
theorem dX3_firstWrong_36 : decode cX3_firstWrong 36 = .ok (.aload_n 0, 1) := by decide +kernel
theorem dX3_firstWrong_37 : decode cX3_firstWrong 37 = .ok (.getfield 12, 3) := by decide +kernel
theorem dX3_firstWrong_40 : decode cX3_firstWrong 40 = .ok (.iconst 1, 1) := by decide +kernel
theorem dX3_firstWrong_41 : decode cX3_firstWrong 41 = .ok (.invokevirtual 60, 3) := by decide +kernel
theorem dX3_firstWrong_44 : decode cX3_firstWrong 44 = .ok (.iinc 4 1, 3) := by decide +kernel
theorem dX3_firstWrong_47 : decode cX3_firstWrong 47 = .ok (.goto (-38), 3) := by decide +kernel
theorem dX3_firstWrong_50 : decode cX3_firstWrong 50 = .ok (.iconst (-1), 1) := by decide +kernel
theorem dX3_firstWrong_51 : decode cX3_firstWrong 51 = .ok (.ireturn, 1) := by decide +kernel
theorem dX4_init_0 : decode cX4_init 0 = .ok (.aload_n 0, 1) := by decide +kernel
theorem dX4_init_1 : decode cX4_init 1 = .ok (.invokespecial 3, 3) := by decide +kernel
theorem dX4_init_4 : decode cX4_init 4 = .ok (.aload_n 0, 1) := by decide +kernel
theorem dX4_init_5 : decode cX4_init 5 = .ok (.bipush 40, 2) := by decide +kernel
theorem dX4_init_7 : decode cX4_init 7 = .ok (.newarray .long, 2) := by decide +kernel
theorem dX4_init_9 : decode cX4_init 9 = .ok (.putfield 9, 3) := by decide +kernel
theorem dX4_init_12 : decode cX4_init 12 = .ok (.aload_n 0, 1) := by decide +kernel
theorem dX4_init_13 : decode cX4_init 13 = .ok (.iconst (-1), 1) := by decide +kernel
theorem dX4_init_14 : decode cX4_init 14 = .ok (.putfield 15, 3) := by decide +kernel
theorem dX4_init_17 : decode cX4_init 17 = .ok (.aload_n 0, 1) := by decide +kernel
theorem dX4_init_18 : decode cX4_init 18 = .ok (.iconst 0, 1) := by decide +kernel
theorem dX4_init_19 : decode cX4_init 19 = .ok (.putfield 19, 3) := by decide +kernel
theorem dX4_init_22 : decode cX4_init 22 = .ok (.aload_n 0, 1) := by decide +kernel
theorem dX4_init_23 : decode cX4_init 23 = .ok (.iconst (-1), 1) := by decide +kernel
theorem dX4_init_24 : decode cX4_init 24 = .ok (.putfield 22, 3) := by decide +kernel
theorem dX4_init_27 : decode cX4_init 27 = .ok (.return_, 1) := by decide +kernel
theorem dX4_holdsRow_0 : decode cX4_holdsRow 0 = .ok (.aload_n 0, 1) := by decide +kernel
theorem dX4_holdsRow_1 : decode cX4_holdsRow 1 = .ok (.getfield 15, 3) := by decide +kernel
theorem dX4_holdsRow_4 : decode cX4_holdsRow 4 = .ok (.iconst (-1), 1) := by decide +kernel
theorem dX4_holdsRow_5 : decode cX4_holdsRow 5 = .ok (.if_icmp .eq 7, 3) := by decide +kernel
theorem dX4_holdsRow_8 : decode cX4_holdsRow 8 = .ok (.iconst 1, 1) := by decide +kernel
theorem dX4_holdsRow_9 : decode cX4_holdsRow 9 = .ok (.goto 4, 3) := by decide +kernel
theorem dX4_holdsRow_12 : decode cX4_holdsRow 12 = .ok (.iconst 0, 1) := by decide +kernel
theorem dX4_holdsRow_13 : decode cX4_holdsRow 13 = .ok (.ireturn, 1) := by decide +kernel
theorem dX4_holdsOne_0 : decode cX4_holdsOne 0 = .ok (.aload_n 0, 1) := by decide +kernel
theorem dX4_holdsOne_1 : decode cX4_holdsOne 1 = .ok (.getfield 22, 3) := by decide +kernel
theorem dX4_holdsOne_4 : decode cX4_holdsOne 4 = .ok (.iconst (-1), 1) := by decide +kernel
theorem dX4_holdsOne_5 : decode cX4_holdsOne 5 = .ok (.if_icmp .eq 7, 3) := by decide +kernel
theorem dX4_holdsOne_8 : decode cX4_holdsOne 8 = .ok (.iconst 1, 1) := by decide +kernel
theorem dX4_holdsOne_9 : decode cX4_holdsOne 9 = .ok (.goto 4, 3) := by decide +kernel
theorem dX4_holdsOne_12 : decode cX4_holdsOne 12 = .ok (.iconst 0, 1) := by decide +kernel
theorem dX4_holdsOne_13 : decode cX4_holdsOne 13 = .ok (.ireturn, 1) := by decide +kernel
theorem dX4_isBare_0 : decode cX4_isBare 0 = .ok (.aload_n 0, 1) := by decide +kernel
theorem dX4_isBare_1 : decode cX4_isBare 1 = .ok (.invokevirtual 25, 3) := by decide +kernel
theorem dX4_isBare_4 : decode cX4_isBare 4 = .ok (.ifCond .ne 14, 3) := by decide +kernel
theorem dX4_isBare_7 : decode cX4_isBare 7 = .ok (.aload_n 0, 1) := by decide +kernel
theorem dX4_isBare_8 : decode cX4_isBare 8 = .ok (.invokevirtual 29, 3) := by decide +kernel
theorem dX4_isBare_11 : decode cX4_isBare 11 = .ok (.ifCond .ne 7, 3) := by decide +kernel
theorem dX4_isBare_14 : decode cX4_isBare 14 = .ok (.iconst 1, 1) := by decide +kernel
theorem dX4_isBare_15 : decode cX4_isBare 15 = .ok (.goto 4, 3) := by decide +kernel
theorem dX4_isBare_18 : decode cX4_isBare 18 = .ok (.iconst 0, 1) := by decide +kernel
theorem dX4_isBare_19 : decode cX4_isBare 19 = .ok (.ireturn, 1) := by decide +kernel
theorem dX4_holdRow_0 : decode cX4_holdRow 0 = .ok (.aload_n 0, 1) := by decide +kernel
theorem dX4_holdRow_1 : decode cX4_holdRow 1 = .ok (.getfield 9, 3) := by decide +kernel
theorem dX4_holdRow_4 : decode cX4_holdRow 4 = .ok (.lconst 0, 1) := by decide +kernel
theorem dX4_holdRow_5 : decode cX4_holdRow 5 = .ok (.invokestatic 32, 3) := by decide +kernel
theorem dX4_holdRow_8 : decode cX4_holdRow 8 = .ok (.aload_n 0, 1) := by decide +kernel
theorem dX4_holdRow_9 : decode cX4_holdRow 9 = .ok (.iload_n 1, 1) := by decide +kernel
theorem dX4_holdRow_10 : decode cX4_holdRow 10 = .ok (.putfield 15, 3) := by decide +kernel
theorem dX4_holdRow_13 : decode cX4_holdRow 13 = .ok (.aload_n 0, 1) := by decide +kernel
theorem dX4_holdRow_14 : decode cX4_holdRow 14 = .ok (.iconst 0, 1) := by decide +kernel
theorem dX4_holdRow_15 : decode cX4_holdRow 15 = .ok (.bipush 40, 2) := by decide +kernel
theorem dX4_holdRow_17 : decode cX4_holdRow 17 = .ok (.iload_n 2, 1) := by decide +kernel
theorem dX4_holdRow_18 : decode cX4_holdRow 18 = .ok (.invokestatic 38, 3) := by decide +kernel
theorem dX4_holdRow_21 : decode cX4_holdRow 21 = .ok (.invokestatic 44, 3) := by decide +kernel
theorem dX4_holdRow_24 : decode cX4_holdRow 24 = .ok (.putfield 19, 3) := by decide +kernel
theorem dX4_holdRow_27 : decode cX4_holdRow 27 = .ok (.aload_n 0, 1) := by decide +kernel
theorem dX4_holdRow_28 : decode cX4_holdRow 28 = .ok (.iconst (-1), 1) := by decide +kernel
theorem dX4_holdRow_29 : decode cX4_holdRow 29 = .ok (.putfield 22, 3) := by decide +kernel
theorem dX4_holdRow_32 : decode cX4_holdRow 32 = .ok (.return_, 1) := by decide +kernel
theorem dX4_holdOne_0 : decode cX4_holdOne 0 = .ok (.aload_n 0, 1) := by decide +kernel
theorem dX4_holdOne_1 : decode cX4_holdOne 1 = .ok (.iconst (-1), 1) := by decide +kernel
theorem dX4_holdOne_2 : decode cX4_holdOne 2 = .ok (.putfield 15, 3) := by decide +kernel
theorem dX4_holdOne_5 : decode cX4_holdOne 5 = .ok (.aload_n 0, 1) := by decide +kernel
theorem dX4_holdOne_6 : decode cX4_holdOne 6 = .ok (.iconst 0, 1) := by decide +kernel
theorem dX4_holdOne_7 : decode cX4_holdOne 7 = .ok (.putfield 19, 3) := by decide +kernel
theorem dX4_holdOne_10 : decode cX4_holdOne 10 = .ok (.aload_n 0, 1) := by decide +kernel
theorem dX4_holdOne_11 : decode cX4_holdOne 11 = .ok (.iload_n 1, 1) := by decide +kernel
theorem dX4_holdOne_12 : decode cX4_holdOne 12 = .ok (.putfield 22, 3) := by decide +kernel
theorem dX4_holdOne_15 : decode cX4_holdOne 15 = .ok (.return_, 1) := by decide +kernel
theorem dX4_hasPlace_0 : decode cX4_hasPlace 0 = .ok (.iload_n 1, 1) := by decide +kernel
theorem dX4_hasPlace_1 : decode cX4_hasPlace 1 = .ok (.ifCond .lt 15, 3) := by decide +kernel
theorem dX4_hasPlace_4 : decode cX4_hasPlace 4 = .ok (.iload_n 1, 1) := by decide +kernel
theorem dX4_hasPlace_5 : decode cX4_hasPlace 5 = .ok (.aload_n 0, 1) := by decide +kernel
theorem dX4_hasPlace_6 : decode cX4_hasPlace 6 = .ok (.getfield 19, 3) := by decide +kernel
theorem dX4_hasPlace_9 : decode cX4_hasPlace 9 = .ok (.if_icmp .ge 7, 3) := by decide +kernel
theorem dX4_hasPlace_12 : decode cX4_hasPlace 12 = .ok (.iconst 1, 1) := by decide +kernel
theorem dX4_hasPlace_13 : decode cX4_hasPlace 13 = .ok (.goto 4, 3) := by decide +kernel
theorem dX4_hasPlace_16 : decode cX4_hasPlace 16 = .ok (.iconst 0, 1) := by decide +kernel
theorem dX4_hasPlace_17 : decode cX4_hasPlace 17 = .ok (.ireturn, 1) := by decide +kernel
theorem dX4_hasStretch_0 : decode cX4_hasStretch 0 = .ok (.iload_n 2, 1) := by decide +kernel
theorem dX4_hasStretch_1 : decode cX4_hasStretch 1 = .ok (.ifCond .lt 29, 3) := by decide +kernel
theorem dX4_hasStretch_4 : decode cX4_hasStretch 4 = .ok (.iload_n 2, 1) := by decide +kernel
theorem dX4_hasStretch_5 : decode cX4_hasStretch 5 = .ok (.aload_n 0, 1) := by decide +kernel
theorem dX4_hasStretch_6 : decode cX4_hasStretch 6 = .ok (.getfield 19, 3) := by decide +kernel
theorem dX4_hasStretch_9 : decode cX4_hasStretch 9 = .ok (.if_icmp .gt 21, 3) := by decide +kernel
theorem dX4_hasStretch_12 : decode cX4_hasStretch 12 = .ok (.iload_n 1, 1) := by decide +kernel
theorem dX4_hasStretch_13 : decode cX4_hasStretch 13 = .ok (.ifCond .lt 17, 3) := by decide +kernel
theorem dX4_hasStretch_16 : decode cX4_hasStretch 16 = .ok (.iload_n 1, 1) := by decide +kernel
theorem dX4_hasStretch_17 : decode cX4_hasStretch 17 = .ok (.aload_n 0, 1) := by decide +kernel
theorem dX4_hasStretch_18 : decode cX4_hasStretch 18 = .ok (.getfield 19, 3) := by decide +kernel
theorem dX4_hasStretch_21 : decode cX4_hasStretch 21 = .ok (.iload_n 2, 1) := by decide +kernel
theorem dX4_hasStretch_22 : decode cX4_hasStretch 22 = .ok (.isub, 1) := by decide +kernel
theorem dX4_hasStretch_23 : decode cX4_hasStretch 23 = .ok (.if_icmp .gt 7, 3) := by decide +kernel
theorem dX4_hasStretch_26 : decode cX4_hasStretch 26 = .ok (.iconst 1, 1) := by decide +kernel
theorem dX4_hasStretch_27 : decode cX4_hasStretch 27 = .ok (.goto 4, 3) := by decide +kernel
theorem dX4_hasStretch_30 : decode cX4_hasStretch 30 = .ok (.iconst 0, 1) := by decide +kernel
theorem dX4_hasStretch_31 : decode cX4_hasStretch 31 = .ok (.ireturn, 1) := by decide +kernel
theorem dX4_at_0 : decode cX4_at 0 = .ok (.aload_n 0, 1) := by decide +kernel
theorem dX4_at_1 : decode cX4_at 1 = .ok (.iload_n 1, 1) := by decide +kernel
theorem dX4_at_2 : decode cX4_at 2 = .ok (.invokevirtual 47, 3) := by decide +kernel
theorem dX4_at_5 : decode cX4_at 5 = .ok (.ifCond .eq 12, 3) := by decide +kernel
theorem dX4_at_8 : decode cX4_at 8 = .ok (.aload_n 0, 1) := by decide +kernel
theorem dX4_at_9 : decode cX4_at 9 = .ok (.getfield 9, 3) := by decide +kernel
theorem dX4_at_12 : decode cX4_at 12 = .ok (.iload_n 1, 1) := by decide +kernel
theorem dX4_at_13 : decode cX4_at 13 = .ok (.laload, 1) := by decide +kernel
theorem dX4_at_14 : decode cX4_at 14 = .ok (.goto 4, 3) := by decide +kernel
theorem dX4_at_17 : decode cX4_at 17 = .ok (.lconst 0, 1) := by decide +kernel
theorem dX4_at_18 : decode cX4_at 18 = .ok (.lreturn, 1) := by decide +kernel
theorem dX4_put_0 : decode cX4_put 0 = .ok (.aload_n 0, 1) := by decide +kernel
theorem dX4_put_1 : decode cX4_put 1 = .ok (.iload_n 1, 1) := by decide +kernel
theorem dX4_put_2 : decode cX4_put 2 = .ok (.invokevirtual 47, 3) := by decide +kernel
theorem dX4_put_5 : decode cX4_put 5 = .ok (.ifCond .eq 14, 3) := by decide +kernel
theorem dX4_put_8 : decode cX4_put 8 = .ok (.aload_n 0, 1) := by decide +kernel
theorem dX4_put_9 : decode cX4_put 9 = .ok (.getfield 9, 3) := by decide +kernel
theorem dX4_put_12 : decode cX4_put 12 = .ok (.iload_n 1, 1) := by decide +kernel
theorem dX4_put_13 : decode cX4_put 13 = .ok (.aload_n 0, 1) := by decide +kernel
theorem dX4_put_14 : decode cX4_put 14 = .ok (.lload_n 2, 1) := by decide +kernel
theorem dX4_put_15 : decode cX4_put 15 = .ok (.invokevirtual 51, 3) := by decide +kernel
theorem dX4_put_18 : decode cX4_put 18 = .ok (.lastore, 1) := by decide +kernel
theorem dX4_put_19 : decode cX4_put 19 = .ok (.return_, 1) := by decide +kernel
theorem dX4_fit_0 : decode cX4_fit 0 = .ok (.aload_n 0, 1) := by decide +kernel
theorem dX4_fit_1 : decode cX4_fit 1 = .ok (.getfield 15, 3) := by decide +kernel
theorem dX4_fit_4 : decode cX4_fit 4 = .ok (.tableswitch 62 0 4 #[36, 41, 46, 62, 50], 36) := by decide +kernel
theorem dX4_fit_40 : decode cX4_fit 40 = .ok (.lload_n 1, 1) := by decide +kernel
theorem dX4_fit_41 : decode cX4_fit 41 = .ok (.l2i, 1) := by decide +kernel
theorem dX4_fit_42 : decode cX4_fit 42 = .ok (.i2b, 1) := by decide +kernel
theorem dX4_fit_43 : decode cX4_fit 43 = .ok (.i2l, 1) := by decide +kernel
theorem dX4_fit_44 : decode cX4_fit 44 = .ok (.lreturn, 1) := by decide +kernel
theorem dX4_fit_45 : decode cX4_fit 45 = .ok (.lload_n 1, 1) := by decide +kernel
theorem dX4_fit_46 : decode cX4_fit 46 = .ok (.l2i, 1) := by decide +kernel
theorem dX4_fit_47 : decode cX4_fit 47 = .ok (.i2s, 1) := by decide +kernel
theorem dX4_fit_48 : decode cX4_fit 48 = .ok (.i2l, 1) := by decide +kernel
theorem dX4_fit_49 : decode cX4_fit 49 = .ok (.lreturn, 1) := by decide +kernel
theorem dX4_fit_50 : decode cX4_fit 50 = .ok (.lload_n 1, 1) := by decide +kernel
theorem dX4_fit_51 : decode cX4_fit 51 = .ok (.l2i, 1) := by decide +kernel
theorem dX4_fit_52 : decode cX4_fit 52 = .ok (.i2l, 1) := by decide +kernel
theorem dX4_fit_53 : decode cX4_fit 53 = .ok (.lreturn, 1) := by decide +kernel
theorem dX4_fit_54 : decode cX4_fit 54 = .ok (.lload_n 1, 1) := by decide +kernel
theorem dX4_fit_55 : decode cX4_fit 55 = .ok (.lconst 0, 1) := by decide +kernel
theorem dX4_fit_56 : decode cX4_fit 56 = .ok (.lcmp, 1) := by decide +kernel
theorem dX4_fit_57 : decode cX4_fit 57 = .ok (.ifCond .eq 7, 3) := by decide +kernel
theorem dX4_fit_60 : decode cX4_fit 60 = .ok (.lconst 1, 1) := by decide +kernel
theorem dX4_fit_61 : decode cX4_fit 61 = .ok (.goto 4, 3) := by decide +kernel
theorem dX4_fit_64 : decode cX4_fit 64 = .ok (.lconst 0, 1) := by decide +kernel
theorem dX4_fit_65 : decode cX4_fit 65 = .ok (.lreturn, 1) := by decide +kernel
theorem dX4_fit_66 : decode cX4_fit 66 = .ok (.lload_n 1, 1) := by decide +kernel
theorem dX4_fit_67 : decode cX4_fit 67 = .ok (.lreturn, 1) := by decide +kernel
theorem dX5_init_0 : decode cX5_init 0 = .ok (.aload_n 0, 1) := by decide +kernel
theorem dX5_init_1 : decode cX5_init 1 = .ok (.invokespecial 3, 3) := by decide +kernel
theorem dX5_init_4 : decode cX5_init 4 = .ok (.aload_n 0, 1) := by decide +kernel
theorem dX5_init_5 : decode cX5_init 5 = .ok (.sipush 250, 3) := by decide +kernel
theorem dX5_init_8 : decode cX5_init 8 = .ok (.newarray .int, 2) := by decide +kernel
theorem dX5_init_10 : decode cX5_init 10 = .ok (.putfield 9, 3) := by decide +kernel
theorem dX5_init_13 : decode cX5_init 13 = .ok (.aload_n 0, 1) := by decide +kernel
theorem dX5_init_14 : decode cX5_init 14 = .ok (.iconst 0, 1) := by decide +kernel
theorem dX5_init_15 : decode cX5_init 15 = .ok (.putfield 15, 3) := by decide +kernel
theorem dX5_init_18 : decode cX5_init 18 = .ok (.aload_n 0, 1) := by decide +kernel
theorem dX5_init_19 : decode cX5_init 19 = .ok (.iconst 0, 1) := by decide +kernel
theorem dX5_init_20 : decode cX5_init 20 = .ok (.putfield 19, 3) := by decide +kernel
theorem dX5_init_23 : decode cX5_init 23 = .ok (.aload_n 0, 1) := by decide +kernel
theorem dX5_init_24 : decode cX5_init 24 = .ok (.iconst 0, 1) := by decide +kernel
theorem dX5_init_25 : decode cX5_init 25 = .ok (.putfield 22, 3) := by decide +kernel
theorem dX5_init_28 : decode cX5_init 28 = .ok (.aload_n 0, 1) := by decide +kernel
theorem dX5_init_29 : decode cX5_init 29 = .ok (.iconst 0, 1) := by decide +kernel
theorem dX5_init_30 : decode cX5_init 30 = .ok (.putfield 25, 3) := by decide +kernel
theorem dX5_init_33 : decode cX5_init 33 = .ok (.return_, 1) := by decide +kernel
theorem dX5_isFull_0 : decode cX5_isFull 0 = .ok (.aload_n 0, 1) := by decide +kernel
theorem dX5_isFull_1 : decode cX5_isFull 1 = .ok (.getfield 15, 3) := by decide +kernel
theorem dX5_isFull_4 : decode cX5_isFull 4 = .ok (.sipush 250, 3) := by decide +kernel
theorem dX5_isFull_7 : decode cX5_isFull 7 = .ok (.if_icmp .lt 7, 3) := by decide +kernel
theorem dX5_isFull_10 : decode cX5_isFull 10 = .ok (.iconst 1, 1) := by decide +kernel
theorem dX5_isFull_11 : decode cX5_isFull 11 = .ok (.goto 4, 3) := by decide +kernel
theorem dX5_isFull_14 : decode cX5_isFull 14 = .ok (.iconst 0, 1) := by decide +kernel
theorem dX5_isFull_15 : decode cX5_isFull 15 = .ok (.ireturn, 1) := by decide +kernel
theorem dX5_append_0 : decode cX5_append 0 = .ok (.aload_n 0, 1) := by decide +kernel
theorem dX5_append_1 : decode cX5_append 1 = .ok (.invokevirtual 28, 3) := by decide +kernel
theorem dX5_append_4 : decode cX5_append 4 = .ok (.ifCond .ne 20, 3) := by decide +kernel
theorem dX5_append_7 : decode cX5_append 7 = .ok (.aload_n 0, 1) := by decide +kernel
theorem dX5_append_8 : decode cX5_append 8 = .ok (.getfield 9, 3) := by decide +kernel
theorem dX5_append_11 : decode cX5_append 11 = .ok (.aload_n 0, 1) := by decide +kernel
theorem dX5_append_12 : decode cX5_append 12 = .ok (.dup, 1) := by decide +kernel
theorem dX5_append_13 : decode cX5_append 13 = .ok (.getfield 15, 3) := by decide +kernel
theorem dX5_append_16 : decode cX5_append 16 = .ok (.dup_x1, 1) := by decide +kernel
theorem dX5_append_17 : decode cX5_append 17 = .ok (.iconst 1, 1) := by decide +kernel
theorem dX5_append_18 : decode cX5_append 18 = .ok (.iadd, 1) := by decide +kernel
theorem dX5_append_19 : decode cX5_append 19 = .ok (.putfield 15, 3) := by decide +kernel
theorem dX5_append_22 : decode cX5_append 22 = .ok (.iload_n 1, 1) := by decide +kernel
theorem dX5_append_23 : decode cX5_append 23 = .ok (.iastore, 1) := by decide +kernel
theorem dX5_append_24 : decode cX5_append 24 = .ok (.aload_n 0, 1) := by decide +kernel
theorem dX5_append_25 : decode cX5_append 25 = .ok (.getfield 15, 3) := by decide +kernel
theorem dX5_append_28 : decode cX5_append 28 = .ok (.ireturn, 1) := by decide +kernel
theorem dX5_clear_0 : decode cX5_clear 0 = .ok (.aload_n 0, 1) := by decide +kernel
theorem dX5_clear_1 : decode cX5_clear 1 = .ok (.getfield 15, 3) := by decide +kernel
theorem dX5_clear_4 : decode cX5_clear 4 = .ok (.istore_n 1, 1) := by decide +kernel
theorem dX5_clear_5 : decode cX5_clear 5 = .ok (.aload_n 0, 1) := by decide +kernel
theorem dX5_clear_6 : decode cX5_clear 6 = .ok (.iconst 0, 1) := by decide +kernel
theorem dX5_clear_7 : decode cX5_clear 7 = .ok (.putfield 15, 3) := by decide +kernel
theorem dX5_clear_10 : decode cX5_clear 10 = .ok (.iload_n 1, 1) := by decide +kernel
theorem dX5_clear_11 : decode cX5_clear 11 = .ok (.ireturn, 1) := by decide +kernel
theorem dX5_readInto_0 : decode cX5_readInto 0 = .ok (.aload_n 0, 1) := by decide +kernel
theorem dX5_readInto_1 : decode cX5_readInto 1 = .ok (.iconst 0, 1) := by decide +kernel
theorem dX5_readInto_2 : decode cX5_readInto 2 = .ok (.putfield 25, 3) := by decide +kernel
theorem dX5_readInto_5 : decode cX5_readInto 5 = .ok (.iconst 1, 1) := by decide +kernel
theorem dX5_readInto_6 : decode cX5_readInto 6 = .ok (.istore_n 2, 1) := by decide +kernel
theorem dX5_readInto_7 : decode cX5_readInto 7 = .ok (.iload_n 2, 1) := by decide +kernel
theorem dX5_readInto_8 : decode cX5_readInto 8 = .ok (.sipush 250, 3) := by decide +kernel
theorem dX5_readInto_11 : decode cX5_readInto 11 = .ok (.if_icmp .gt 48, 3) := by decide +kernel
theorem dX5_readInto_14 : decode cX5_readInto 14 = .ok (.aload_n 0, 1) := by decide +kernel
theorem dX5_readInto_15 : decode cX5_readInto 15 = .ok (.invokevirtual 32, 3) := by decide +kernel
theorem dX5_readInto_18 : decode cX5_readInto 18 = .ok (.aload_n 0, 1) := by decide +kernel
theorem dX5_readInto_19 : decode cX5_readInto 19 = .ok (.aload_n 1, 1) := by decide +kernel
theorem dX5_readInto_20 : decode cX5_readInto 20 = .ok (.invokevirtual 35, 3) := by decide +kernel
theorem dX5_readInto_23 : decode cX5_readInto 23 = .ok (.ifCond .ne 6, 3) := by decide +kernel
theorem dX5_readInto_26 : decode cX5_readInto 26 = .ok (.goto 33, 3) := by decide +kernel
theorem dX5_readInto_29 : decode cX5_readInto 29 = .ok (.aload_n 0, 1) := by decide +kernel
theorem dX5_readInto_30 : decode cX5_readInto 30 = .ok (.invokevirtual 32, 3) := by decide +kernel
theorem dX5_readInto_33 : decode cX5_readInto 33 = .ok (.aload_n 0, 1) := by decide +kernel
theorem dX5_readInto_34 : decode cX5_readInto 34 = .ok (.getfield 19, 3) := by decide +kernel
theorem dX5_readInto_37 : decode cX5_readInto 37 = .ok (.ifCond .ne 5, 3) := by decide +kernel
theorem dX5_readInto_40 : decode cX5_readInto 40 = .ok (.iload_n 2, 1) := by decide +kernel
theorem dX5_readInto_41 : decode cX5_readInto 41 = .ok (.ireturn, 1) := by decide +kernel
theorem dX5_readInto_42 : decode cX5_readInto 42 = .ok (.aload_n 0, 1) := by decide +kernel
theorem dX5_readInto_43 : decode cX5_readInto 43 = .ok (.getfield 19, 3) := by decide +kernel
theorem dX5_readInto_46 : decode cX5_readInto 46 = .ok (.iconst 3, 1) := by decide +kernel
theorem dX5_readInto_47 : decode cX5_readInto 47 = .ok (.if_icmp .eq 6, 3) := by decide +kernel
theorem dX5_readInto_50 : decode cX5_readInto 50 = .ok (.goto 9, 3) := by decide +kernel
theorem dX5_readInto_53 : decode cX5_readInto 53 = .ok (.iinc 2 1, 3) := by decide +kernel
theorem dX5_readInto_56 : decode cX5_readInto 56 = .ok (.goto (-49), 3) := by decide +kernel
theorem dX5_readInto_59 : decode cX5_readInto 59 = .ok (.bipush (-20), 2) := by decide +kernel
theorem dX5_readInto_61 : decode cX5_readInto 61 = .ok (.aload_n 0, 1) := by decide +kernel
theorem dX5_readInto_62 : decode cX5_readInto 62 = .ok (.getfield 22, 3) := by decide +kernel
theorem dX5_readInto_65 : decode cX5_readInto 65 = .ok (.isub, 1) := by decide +kernel
theorem dX5_readInto_66 : decode cX5_readInto 66 = .ok (.ireturn, 1) := by decide +kernel
theorem dX5_step_0 : decode cX5_step 0 = .ok (.aload_n 0, 1) := by decide +kernel
theorem dX5_step_1 : decode cX5_step 1 = .ok (.getfield 25, 3) := by decide +kernel
theorem dX5_step_4 : decode cX5_step 4 = .ok (.aload_n 0, 1) := by decide +kernel
theorem dX5_step_5 : decode cX5_step 5 = .ok (.getfield 15, 3) := by decide +kernel
theorem dX5_step_8 : decode cX5_step 8 = .ok (.if_icmp .ge 30, 3) := by decide +kernel
theorem dX5_step_11 : decode cX5_step 11 = .ok (.aload_n 0, 1) := by decide +kernel
theorem dX5_step_12 : decode cX5_step 12 = .ok (.getfield 9, 3) := by decide +kernel
theorem dX5_step_15 : decode cX5_step 15 = .ok (.aload_n 0, 1) := by decide +kernel
theorem dX5_step_16 : decode cX5_step 16 = .ok (.getfield 25, 3) := by decide +kernel
theorem dX5_step_19 : decode cX5_step 19 = .ok (.iaload, 1) := by decide +kernel
theorem dX5_step_20 : decode cX5_step 20 = .ok (.bipush 32, 2) := by decide +kernel
theorem dX5_step_22 : decode cX5_step 22 = .ok (.if_icmp .ne 16, 3) := by decide +kernel
theorem dX5_step_25 : decode cX5_step 25 = .ok (.aload_n 0, 1) := by decide +kernel
theorem dX5_step_26 : decode cX5_step 26 = .ok (.dup, 1) := by decide +kernel
theorem dX5_step_27 : decode cX5_step 27 = .ok (.getfield 25, 3) := by decide +kernel
theorem dX5_step_30 : decode cX5_step 30 = .ok (.iconst 1, 1) := by decide +kernel
theorem dX5_step_31 : decode cX5_step 31 = .ok (.iadd, 1) := by decide +kernel
theorem dX5_step_32 : decode cX5_step 32 = .ok (.putfield 25, 3) := by decide +kernel
theorem dX5_step_35 : decode cX5_step 35 = .ok (.goto (-35), 3) := by decide +kernel
theorem dX5_step_38 : decode cX5_step 38 = .ok (.aload_n 0, 1) := by decide +kernel
theorem dX5_step_39 : decode cX5_step 39 = .ok (.aload_n 0, 1) := by decide +kernel
theorem dX5_step_40 : decode cX5_step 40 = .ok (.getfield 25, 3) := by decide +kernel
theorem dX5_step_43 : decode cX5_step 43 = .ok (.putfield 22, 3) := by decide +kernel
theorem dX5_step_46 : decode cX5_step 46 = .ok (.aload_n 0, 1) := by decide +kernel
theorem dX5_step_47 : decode cX5_step 47 = .ok (.getfield 22, 3) := by decide +kernel
theorem dX5_step_50 : decode cX5_step 50 = .ok (.aload_n 0, 1) := by decide +kernel
theorem dX5_step_51 : decode cX5_step 51 = .ok (.getfield 15, 3) := by decide +kernel
theorem dX5_step_54 : decode cX5_step 54 = .ok (.if_icmp .lt 11, 3) := by decide +kernel
theorem dX5_step_57 : decode cX5_step 57 = .ok (.aload_n 0, 1) := by decide +kernel
theorem dX5_step_58 : decode cX5_step 58 = .ok (.iconst 0, 1) := by decide +kernel
theorem dX5_step_59 : decode cX5_step 59 = .ok (.putfield 19, 3) := by decide +kernel
theorem dX5_step_62 : decode cX5_step 62 = .ok (.goto 74, 3) := by decide +kernel
theorem dX5_step_65 : decode cX5_step 65 = .ok (.aload_n 0, 1) := by decide +kernel
theorem dX5_step_66 : decode cX5_step 66 = .ok (.bipush 97, 2) := by decide +kernel
theorem dX5_step_68 : decode cX5_step 68 = .ok (.bipush 122, 2) := by decide +kernel
theorem dX5_step_70 : decode cX5_step 70 = .ok (.invokevirtual 39, 3) := by decide +kernel
theorem dX5_step_73 : decode cX5_step 73 = .ok (.ifCond .eq 11, 3) := by decide +kernel
theorem dX5_step_76 : decode cX5_step 76 = .ok (.aload_n 0, 1) := by decide +kernel
theorem dX5_step_77 : decode cX5_step 77 = .ok (.iconst 1, 1) := by decide +kernel
theorem dX5_step_78 : decode cX5_step 78 = .ok (.putfield 19, 3) := by decide +kernel
theorem dX5_step_81 : decode cX5_step 81 = .ok (.goto 55, 3) := by decide +kernel
theorem dX5_step_84 : decode cX5_step 84 = .ok (.aload_n 0, 1) := by decide +kernel
theorem dX5_step_85 : decode cX5_step 85 = .ok (.bipush 48, 2) := by decide +kernel
theorem dX5_step_87 : decode cX5_step 87 = .ok (.bipush 57, 2) := by decide +kernel
theorem dX5_step_89 : decode cX5_step 89 = .ok (.invokevirtual 39, 3) := by decide +kernel
theorem dX5_step_92 : decode cX5_step 92 = .ok (.ifCond .eq 11, 3) := by decide +kernel
theorem dX5_step_95 : decode cX5_step 95 = .ok (.aload_n 0, 1) := by decide +kernel
theorem dX5_step_96 : decode cX5_step 96 = .ok (.iconst 2, 1) := by decide +kernel
theorem dX5_step_97 : decode cX5_step 97 = .ok (.putfield 19, 3) := by decide +kernel
theorem dX5_step_100 : decode cX5_step 100 = .ok (.goto 36, 3) := by decide +kernel
theorem dX5_step_103 : decode cX5_step 103 = .ok (.aload_n 0, 1) := by decide +kernel
theorem dX5_step_104 : decode cX5_step 104 = .ok (.aload_n 0, 1) := by decide +kernel
theorem dX5_step_105 : decode cX5_step 105 = .ok (.getfield 9, 3) := by decide +kernel
theorem dX5_step_108 : decode cX5_step 108 = .ok (.aload_n 0, 1) := by decide +kernel
theorem dX5_step_109 : decode cX5_step 109 = .ok (.getfield 22, 3) := by decide +kernel
theorem dX5_step_112 : decode cX5_step 112 = .ok (.iaload, 1) := by decide +kernel
theorem dX5_step_113 : decode cX5_step 113 = .ok (.bipush 59, 2) := by decide +kernel
theorem dX5_step_115 : decode cX5_step 115 = .ok (.if_icmp .ne 7, 3) := by decide +kernel
theorem dX5_step_118 : decode cX5_step 118 = .ok (.iconst 3, 1) := by decide +kernel
theorem dX5_step_119 : decode cX5_step 119 = .ok (.goto 4, 3) := by decide +kernel
theorem dX5_step_122 : decode cX5_step 122 = .ok (.iconst 4, 1) := by decide +kernel
theorem dX5_step_123 : decode cX5_step 123 = .ok (.putfield 19, 3) := by decide +kernel
theorem dX5_step_126 : decode cX5_step 126 = .ok (.aload_n 0, 1) := by decide +kernel
theorem dX5_step_127 : decode cX5_step 127 = .ok (.dup, 1) := by decide +kernel
theorem dX5_step_128 : decode cX5_step 128 = .ok (.getfield 25, 3) := by decide +kernel
theorem dX5_step_131 : decode cX5_step 131 = .ok (.iconst 1, 1) := by decide +kernel
theorem dX5_step_132 : decode cX5_step 132 = .ok (.iadd, 1) := by decide +kernel
theorem dX5_step_133 : decode cX5_step 133 = .ok (.putfield 25, 3) := by decide +kernel
theorem dX5_step_136 : decode cX5_step 136 = .ok (.return_, 1) := by decide +kernel
theorem dX5_takesAllOf_0 : decode cX5_takesAllOf 0 = .ok (.aload_n 0, 1) := by decide +kernel
theorem dX5_takesAllOf_1 : decode cX5_takesAllOf 1 = .ok (.getfield 25, 3) := by decide +kernel
theorem dX5_takesAllOf_4 : decode cX5_takesAllOf 4 = .ok (.aload_n 0, 1) := by decide +kernel
