theorem dX7_kindTold_35 : decode cX7_kindTold 35 = .ok (.goto (-31), 3) := by decide +kernel
theorem dX7_kindTold_38 : decode cX7_kindTold 38 = .ok (.iload_n 1, 1) := by decide +kernel
theorem dX7_kindTold_39 : decode cX7_kindTold 39 = .ok (.ireturn, 1) := by decide +kernel
theorem dX7_readItem_0 : decode cX7_readItem 0 = .ok (.aload_n 0, 1) := by decide +kernel
theorem dX7_readItem_1 : decode cX7_readItem 1 = .ok (.invokevirtual 270, 3) := by decide +kernel
theorem dX7_readItem_4 : decode cX7_readItem 4 = .ok (.istore_n 1, 1) := by decide +kernel
theorem dX7_readItem_5 : decode cX7_readItem 5 = .ok (.iload_n 1, 1) := by decide +kernel
theorem dX7_readItem_6 : decode cX7_readItem 6 = .ok (.ifCond .lt 11, 3) := by decide +kernel
theorem dX7_readItem_9 : decode cX7_readItem 9 = .ok (.aload_n 0, 1) := by decide +kernel
theorem dX7_readItem_10 : decode cX7_readItem 10 = .ok (.iload_n 1, 1) := by decide +kernel
theorem dX7_readItem_11 : decode cX7_readItem 11 = .ok (.invokevirtual 273, 3) := by decide +kernel
theorem dX7_readItem_14 : decode cX7_readItem 14 = .ok (.goto 115, 3) := by decide +kernel
theorem dX7_readItem_17 : decode cX7_readItem 17 = .ok (.aload_n 0, 1) := by decide +kernel
theorem dX7_readItem_18 : decode cX7_readItem 18 = .ok (.aload_n 0, 1) := by decide +kernel
theorem dX7_readItem_19 : decode cX7_readItem 19 = .ok (.ldc_w 276, 3) := by decide +kernel
theorem dX7_readItem_22 : decode cX7_readItem 22 = .ok (.invokevirtual 266, 3) := by decide +kernel
theorem dX7_readItem_25 : decode cX7_readItem 25 = .ok (.invokevirtual 259, 3) := by decide +kernel
theorem dX7_readItem_28 : decode cX7_readItem 28 = .ok (.aload_n 0, 1) := by decide +kernel
theorem dX7_readItem_29 : decode cX7_readItem 29 = .ok (.iconst 0, 1) := by decide +kernel
theorem dX7_readItem_30 : decode cX7_readItem 30 = .ok (.aload_n 0, 1) := by decide +kernel
theorem dX7_readItem_31 : decode cX7_readItem 31 = .ok (.getfield 278, 3) := by decide +kernel
theorem dX7_readItem_34 : decode cX7_readItem 34 = .ok (.iconst 1, 1) := by decide +kernel
theorem dX7_readItem_35 : decode cX7_readItem 35 = .ok (.isub, 1) := by decide +kernel
theorem dX7_readItem_36 : decode cX7_readItem 36 = .ok (.invokevirtual 281, 3) := by decide +kernel
theorem dX7_readItem_39 : decode cX7_readItem 39 = .ok (.istore_n 2, 1) := by decide +kernel
theorem dX7_readItem_40 : decode cX7_readItem 40 = .ok (.aload_n 0, 1) := by decide +kernel
theorem dX7_readItem_41 : decode cX7_readItem 41 = .ok (.aload_n 0, 1) := by decide +kernel
theorem dX7_readItem_42 : decode cX7_readItem 42 = .ok (.ldc_w 284, 3) := by decide +kernel
theorem dX7_readItem_45 : decode cX7_readItem 45 = .ok (.invokevirtual 266, 3) := by decide +kernel
theorem dX7_readItem_48 : decode cX7_readItem 48 = .ok (.invokevirtual 259, 3) := by decide +kernel
theorem dX7_readItem_51 : decode cX7_readItem 51 = .ok (.aload_n 0, 1) := by decide +kernel
theorem dX7_readItem_52 : decode cX7_readItem 52 = .ok (.getfield 239, 3) := by decide +kernel
theorem dX7_readItem_55 : decode cX7_readItem 55 = .ok (.istore_n 3, 1) := by decide +kernel
theorem dX7_readItem_56 : decode cX7_readItem 56 = .ok (.aload_n 0, 1) := by decide +kernel
theorem dX7_readItem_57 : decode cX7_readItem 57 = .ok (.aload_n 0, 1) := by decide +kernel
theorem dX7_readItem_58 : decode cX7_readItem 58 = .ok (.getfield 242, 3) := by decide +kernel
theorem dX7_readItem_61 : decode cX7_readItem 61 = .ok (.iconst 2, 1) := by decide +kernel
theorem dX7_readItem_62 : decode cX7_readItem 62 = .ok (.if_icmp .ne 35, 3) := by decide +kernel
theorem dX7_readItem_65 : decode cX7_readItem 65 = .ok (.iload_n 3, 1) := by decide +kernel
theorem dX7_readItem_66 : decode cX7_readItem 66 = .ok (.invokestatic 76, 3) := by decide +kernel
theorem dX7_readItem_69 : decode cX7_readItem 69 = .ok (.ifCond .eq 28, 3) := by decide +kernel
theorem dX7_readItem_72 : decode cX7_readItem 72 = .ok (.iload_n 3, 1) := by decide +kernel
theorem dX7_readItem_73 : decode cX7_readItem 73 = .ok (.aload_n 0, 1) := by decide +kernel
theorem dX7_readItem_74 : decode cX7_readItem 74 = .ok (.getfield 52, 3) := by decide +kernel
theorem dX7_readItem_77 : decode cX7_readItem 77 = .ok (.aload_n 0, 1) := by decide +kernel
theorem dX7_readItem_78 : decode cX7_readItem 78 = .ok (.getfield 252, 3) := by decide +kernel
theorem dX7_readItem_81 : decode cX7_readItem 81 = .ok (.ifCond .eq 7, 3) := by decide +kernel
theorem dX7_readItem_84 : decode cX7_readItem 84 = .ok (.iconst 0, 1) := by decide +kernel
theorem dX7_readItem_85 : decode cX7_readItem 85 = .ok (.goto 4, 3) := by decide +kernel
theorem dX7_readItem_88 : decode cX7_readItem 88 = .ok (.iload_n 2, 1) := by decide +kernel
theorem dX7_readItem_89 : decode cX7_readItem 89 = .ok (.iaload, 1) := by decide +kernel
theorem dX7_readItem_90 : decode cX7_readItem 90 = .ok (.if_icmp .eq 7, 3) := by decide +kernel
theorem dX7_readItem_93 : decode cX7_readItem 93 = .ok (.iconst 1, 1) := by decide +kernel
theorem dX7_readItem_94 : decode cX7_readItem 94 = .ok (.goto 4, 3) := by decide +kernel
theorem dX7_readItem_97 : decode cX7_readItem 97 = .ok (.iconst 0, 1) := by decide +kernel
theorem dX7_readItem_98 : decode cX7_readItem 98 = .ok (.invokevirtual 259, 3) := by decide +kernel
theorem dX7_readItem_101 : decode cX7_readItem 101 = .ok (.aload_n 0, 1) := by decide +kernel
theorem dX7_readItem_102 : decode cX7_readItem 102 = .ok (.getfield 52, 3) := by decide +kernel
theorem dX7_readItem_105 : decode cX7_readItem 105 = .ok (.aload_n 0, 1) := by decide +kernel
theorem dX7_readItem_106 : decode cX7_readItem 106 = .ok (.getfield 252, 3) := by decide +kernel
theorem dX7_readItem_109 : decode cX7_readItem 109 = .ok (.ifCond .eq 7, 3) := by decide +kernel
theorem dX7_readItem_112 : decode cX7_readItem 112 = .ok (.iconst 0, 1) := by decide +kernel
theorem dX7_readItem_113 : decode cX7_readItem 113 = .ok (.goto 4, 3) := by decide +kernel
theorem dX7_readItem_116 : decode cX7_readItem 116 = .ok (.iload_n 2, 1) := by decide +kernel
theorem dX7_readItem_117 : decode cX7_readItem 117 = .ok (.iload_n 3, 1) := by decide +kernel
theorem dX7_readItem_118 : decode cX7_readItem 118 = .ok (.iastore, 1) := by decide +kernel
theorem dX7_readItem_119 : decode cX7_readItem 119 = .ok (.aload_n 0, 1) := by decide +kernel
theorem dX7_readItem_120 : decode cX7_readItem 120 = .ok (.bipush 10, 2) := by decide +kernel
theorem dX7_readItem_122 : decode cX7_readItem 122 = .ok (.iload_n 2, 1) := by decide +kernel
theorem dX7_readItem_123 : decode cX7_readItem 123 = .ok (.iload_n 3, 1) := by decide +kernel
theorem dX7_readItem_124 : decode cX7_readItem 124 = .ok (.iconst 0, 1) := by decide +kernel
theorem dX7_readItem_125 : decode cX7_readItem 125 = .ok (.iconst 0, 1) := by decide +kernel
theorem dX7_readItem_126 : decode cX7_readItem 126 = .ok (.invokevirtual 286, 3) := by decide +kernel
theorem dX7_readItem_129 : decode cX7_readItem 129 = .ok (.return_, 1) := by decide +kernel
theorem dX7_readCoin_0 : decode cX7_readCoin 0 = .ok (.aload_n 0, 1) := by decide +kernel
theorem dX7_readCoin_1 : decode cX7_readCoin 1 = .ok (.aload_n 0, 1) := by decide +kernel
theorem dX7_readCoin_2 : decode cX7_readCoin 2 = .ok (.getfield 278, 3) := by decide +kernel
theorem dX7_readCoin_5 : decode cX7_readCoin 5 = .ok (.bipush 10, 2) := by decide +kernel
theorem dX7_readCoin_7 : decode cX7_readCoin 7 = .ok (.if_icmp .ge 7, 3) := by decide +kernel
theorem dX7_readCoin_10 : decode cX7_readCoin 10 = .ok (.iconst 1, 1) := by decide +kernel
theorem dX7_readCoin_11 : decode cX7_readCoin 11 = .ok (.goto 4, 3) := by decide +kernel
theorem dX7_readCoin_14 : decode cX7_readCoin 14 = .ok (.iconst 0, 1) := by decide +kernel
theorem dX7_readCoin_15 : decode cX7_readCoin 15 = .ok (.invokevirtual 259, 3) := by decide +kernel
theorem dX7_readCoin_18 : decode cX7_readCoin 18 = .ok (.aload_n 0, 1) := by decide +kernel
theorem dX7_readCoin_19 : decode cX7_readCoin 19 = .ok (.iconst 0, 1) := by decide +kernel
theorem dX7_readCoin_20 : decode cX7_readCoin 20 = .ok (.bipush 99, 2) := by decide +kernel
theorem dX7_readCoin_22 : decode cX7_readCoin 22 = .ok (.invokevirtual 281, 3) := by decide +kernel
theorem dX7_readCoin_25 : decode cX7_readCoin 25 = .ok (.istore_n 2, 1) := by decide +kernel
theorem dX7_readCoin_26 : decode cX7_readCoin 26 = .ok (.aload_n 0, 1) := by decide +kernel
theorem dX7_readCoin_27 : decode cX7_readCoin 27 = .ok (.iconst 0, 1) := by decide +kernel
theorem dX7_readCoin_28 : decode cX7_readCoin 28 = .ok (.bipush 99, 2) := by decide +kernel
theorem dX7_readCoin_30 : decode cX7_readCoin 30 = .ok (.invokevirtual 281, 3) := by decide +kernel
theorem dX7_readCoin_33 : decode cX7_readCoin 33 = .ok (.istore_n 3, 1) := by decide +kernel
theorem dX7_readCoin_34 : decode cX7_readCoin 34 = .ok (.iconst 0, 1) := by decide +kernel
theorem dX7_readCoin_35 : decode cX7_readCoin 35 = .ok (.istore 4, 2) := by decide +kernel
theorem dX7_readCoin_37 : decode cX7_readCoin 37 = .ok (.aload_n 0, 1) := by decide +kernel
theorem dX7_readCoin_38 : decode cX7_readCoin 38 = .ok (.getfield 252, 3) := by decide +kernel
theorem dX7_readCoin_41 : decode cX7_readCoin 41 = .ok (.ifCond .ne 26, 3) := by decide +kernel
theorem dX7_readCoin_44 : decode cX7_readCoin 44 = .ok (.aload_n 0, 1) := by decide +kernel
theorem dX7_readCoin_45 : decode cX7_readCoin 45 = .ok (.ldc_w 290, 3) := by decide +kernel
theorem dX7_readCoin_48 : decode cX7_readCoin 48 = .ok (.invokevirtual 266, 3) := by decide +kernel
theorem dX7_readCoin_51 : decode cX7_readCoin 51 = .ok (.ifCond .eq 16, 3) := by decide +kernel
theorem dX7_readCoin_54 : decode cX7_readCoin 54 = .ok (.aload_n 0, 1) := by decide +kernel
theorem dX7_readCoin_55 : decode cX7_readCoin 55 = .ok (.iconst 1, 1) := by decide +kernel
theorem dX7_readCoin_56 : decode cX7_readCoin 56 = .ok (.invokevirtual 259, 3) := by decide +kernel
theorem dX7_readCoin_59 : decode cX7_readCoin 59 = .ok (.aload_n 0, 1) := by decide +kernel
theorem dX7_readCoin_60 : decode cX7_readCoin 60 = .ok (.iconst 0, 1) := by decide +kernel
theorem dX7_readCoin_61 : decode cX7_readCoin 61 = .ok (.iconst 3, 1) := by decide +kernel
theorem dX7_readCoin_62 : decode cX7_readCoin 62 = .ok (.invokevirtual 281, 3) := by decide +kernel
theorem dX7_readCoin_65 : decode cX7_readCoin 65 = .ok (.istore 4, 2) := by decide +kernel
theorem dX7_readCoin_67 : decode cX7_readCoin 67 = .ok (.iconst 0, 1) := by decide +kernel
theorem dX7_readCoin_68 : decode cX7_readCoin 68 = .ok (.istore 5, 2) := by decide +kernel
theorem dX7_readCoin_70 : decode cX7_readCoin 70 = .ok (.aload_n 0, 1) := by decide +kernel
theorem dX7_readCoin_71 : decode cX7_readCoin 71 = .ok (.getfield 252, 3) := by decide +kernel
theorem dX7_readCoin_74 : decode cX7_readCoin 74 = .ok (.ifCond .ne 21, 3) := by decide +kernel
theorem dX7_readCoin_77 : decode cX7_readCoin 77 = .ok (.aload_n 0, 1) := by decide +kernel
theorem dX7_readCoin_78 : decode cX7_readCoin 78 = .ok (.ldc_w 292, 3) := by decide +kernel
theorem dX7_readCoin_81 : decode cX7_readCoin 81 = .ok (.invokevirtual 266, 3) := by decide +kernel
theorem dX7_readCoin_84 : decode cX7_readCoin 84 = .ok (.ifCond .eq 11, 3) := by decide +kernel
theorem dX7_readCoin_87 : decode cX7_readCoin 87 = .ok (.aload_n 0, 1) := by decide +kernel
theorem dX7_readCoin_88 : decode cX7_readCoin 88 = .ok (.iconst 1, 1) := by decide +kernel
theorem dX7_readCoin_89 : decode cX7_readCoin 89 = .ok (.invokevirtual 259, 3) := by decide +kernel
theorem dX7_readCoin_92 : decode cX7_readCoin 92 = .ok (.iconst 1, 1) := by decide +kernel
theorem dX7_readCoin_93 : decode cX7_readCoin 93 = .ok (.istore 5, 2) := by decide +kernel
theorem dX7_readCoin_95 : decode cX7_readCoin 95 = .ok (.aload_n 0, 1) := by decide +kernel
theorem dX7_readCoin_96 : decode cX7_readCoin 96 = .ok (.getfield 252, 3) := by decide +kernel
theorem dX7_readCoin_99 : decode cX7_readCoin 99 = .ok (.ifCond .ne 24, 3) := by decide +kernel
theorem dX7_readCoin_102 : decode cX7_readCoin 102 = .ok (.aload_n 0, 1) := by decide +kernel
theorem dX7_readCoin_103 : decode cX7_readCoin 103 = .ok (.getfield 52, 3) := by decide +kernel
theorem dX7_readCoin_106 : decode cX7_readCoin 106 = .ok (.aload_n 0, 1) := by decide +kernel
theorem dX7_readCoin_107 : decode cX7_readCoin 107 = .ok (.getfield 278, 3) := by decide +kernel
theorem dX7_readCoin_110 : decode cX7_readCoin 110 = .ok (.iload 4, 2) := by decide +kernel
theorem dX7_readCoin_112 : decode cX7_readCoin 112 = .ok (.iastore, 1) := by decide +kernel
theorem dX7_readCoin_113 : decode cX7_readCoin 113 = .ok (.aload_n 0, 1) := by decide +kernel
theorem dX7_readCoin_114 : decode cX7_readCoin 114 = .ok (.dup, 1) := by decide +kernel
theorem dX7_readCoin_115 : decode cX7_readCoin 115 = .ok (.getfield 278, 3) := by decide +kernel
theorem dX7_readCoin_118 : decode cX7_readCoin 118 = .ok (.iconst 1, 1) := by decide +kernel
theorem dX7_readCoin_119 : decode cX7_readCoin 119 = .ok (.iadd, 1) := by decide +kernel
theorem dX7_readCoin_120 : decode cX7_readCoin 120 = .ok (.putfield 278, 3) := by decide +kernel
theorem dX7_readCoin_123 : decode cX7_readCoin 123 = .ok (.aload_n 0, 1) := by decide +kernel
theorem dX7_readCoin_124 : decode cX7_readCoin 124 = .ok (.iload_n 1, 1) := by decide +kernel
theorem dX7_readCoin_125 : decode cX7_readCoin 125 = .ok (.iload_n 2, 1) := by decide +kernel
theorem dX7_readCoin_126 : decode cX7_readCoin 126 = .ok (.iload_n 3, 1) := by decide +kernel
theorem dX7_readCoin_127 : decode cX7_readCoin 127 = .ok (.iload 4, 2) := by decide +kernel
theorem dX7_readCoin_129 : decode cX7_readCoin 129 = .ok (.iload 5, 2) := by decide +kernel
theorem dX7_readCoin_131 : decode cX7_readCoin 131 = .ok (.invokevirtual 286, 3) := by decide +kernel
theorem dX7_readCoin_134 : decode cX7_readCoin 134 = .ok (.return_, 1) := by decide +kernel
theorem dX7_isSo_0 : decode cX7_isSo 0 = .ok (.aload_n 0, 1) := by decide +kernel
theorem dX7_isSo_1 : decode cX7_isSo 1 = .ok (.getfield 49, 3) := by decide +kernel
theorem dX7_isSo_4 : decode cX7_isSo 4 = .ok (.iload_n 1, 1) := by decide +kernel
theorem dX7_isSo_5 : decode cX7_isSo 5 = .ok (.iaload, 1) := by decide +kernel
theorem dX7_isSo_6 : decode cX7_isSo 6 = .ok (.bipush 10, 2) := by decide +kernel
theorem dX7_isSo_8 : decode cX7_isSo 8 = .ok (.if_icmp .ne 26, 3) := by decide +kernel
theorem dX7_isSo_11 : decode cX7_isSo 11 = .ok (.aload_n 0, 1) := by decide +kernel
theorem dX7_isSo_12 : decode cX7_isSo 12 = .ok (.aload_n 0, 1) := by decide +kernel
theorem dX7_isSo_13 : decode cX7_isSo 13 = .ok (.getfield 49, 3) := by decide +kernel
theorem dX7_isSo_16 : decode cX7_isSo 16 = .ok (.iload_n 1, 1) := by decide +kernel
theorem dX7_isSo_17 : decode cX7_isSo 17 = .ok (.iconst 1, 1) := by decide +kernel
theorem dX7_isSo_18 : decode cX7_isSo 18 = .ok (.iadd, 1) := by decide +kernel
theorem dX7_isSo_19 : decode cX7_isSo 19 = .ok (.iaload, 1) := by decide +kernel
theorem dX7_isSo_20 : decode cX7_isSo 20 = .ok (.aload_n 0, 1) := by decide +kernel
theorem dX7_isSo_21 : decode cX7_isSo 21 = .ok (.getfield 49, 3) := by decide +kernel
theorem dX7_isSo_24 : decode cX7_isSo 24 = .ok (.iload_n 1, 1) := by decide +kernel
theorem dX7_isSo_25 : decode cX7_isSo 25 = .ok (.iconst 2, 1) := by decide +kernel
theorem dX7_isSo_26 : decode cX7_isSo 26 = .ok (.iadd, 1) := by decide +kernel
theorem dX7_isSo_27 : decode cX7_isSo 27 = .ok (.iaload, 1) := by decide +kernel
theorem dX7_isSo_28 : decode cX7_isSo 28 = .ok (.invokevirtual 155, 3) := by decide +kernel
theorem dX7_isSo_31 : decode cX7_isSo 31 = .ok (.goto 46, 3) := by decide +kernel
theorem dX7_isSo_34 : decode cX7_isSo 34 = .ok (.aload_n 0, 1) := by decide +kernel
theorem dX7_isSo_35 : decode cX7_isSo 35 = .ok (.aload_n 0, 1) := by decide +kernel
theorem dX7_isSo_36 : decode cX7_isSo 36 = .ok (.getfield 49, 3) := by decide +kernel
theorem dX7_isSo_39 : decode cX7_isSo 39 = .ok (.iload_n 1, 1) := by decide +kernel
theorem dX7_isSo_40 : decode cX7_isSo 40 = .ok (.iaload, 1) := by decide +kernel
theorem dX7_isSo_41 : decode cX7_isSo 41 = .ok (.aload_n 0, 1) := by decide +kernel
theorem dX7_isSo_42 : decode cX7_isSo 42 = .ok (.getfield 49, 3) := by decide +kernel
theorem dX7_isSo_45 : decode cX7_isSo 45 = .ok (.iload_n 1, 1) := by decide +kernel
theorem dX7_isSo_46 : decode cX7_isSo 46 = .ok (.iconst 1, 1) := by decide +kernel
theorem dX7_isSo_47 : decode cX7_isSo 47 = .ok (.iadd, 1) := by decide +kernel
theorem dX7_isSo_48 : decode cX7_isSo 48 = .ok (.iaload, 1) := by decide +kernel
theorem dX7_isSo_49 : decode cX7_isSo 49 = .ok (.aload_n 0, 1) := by decide +kernel
theorem dX7_isSo_50 : decode cX7_isSo 50 = .ok (.getfield 49, 3) := by decide +kernel
theorem dX7_isSo_53 : decode cX7_isSo 53 = .ok (.iload_n 1, 1) := by decide +kernel
theorem dX7_isSo_54 : decode cX7_isSo 54 = .ok (.iconst 2, 1) := by decide +kernel
theorem dX7_isSo_55 : decode cX7_isSo 55 = .ok (.iadd, 1) := by decide +kernel
theorem dX7_isSo_56 : decode cX7_isSo 56 = .ok (.iaload, 1) := by decide +kernel
theorem dX7_isSo_57 : decode cX7_isSo 57 = .ok (.aload_n 0, 1) := by decide +kernel
theorem dX7_isSo_58 : decode cX7_isSo 58 = .ok (.getfield 49, 3) := by decide +kernel
theorem dX7_isSo_61 : decode cX7_isSo 61 = .ok (.iload_n 1, 1) := by decide +kernel
theorem dX7_isSo_62 : decode cX7_isSo 62 = .ok (.iconst 3, 1) := by decide +kernel
theorem dX7_isSo_63 : decode cX7_isSo 63 = .ok (.iadd, 1) := by decide +kernel
theorem dX7_isSo_64 : decode cX7_isSo 64 = .ok (.iaload, 1) := by decide +kernel
theorem dX7_isSo_65 : decode cX7_isSo 65 = .ok (.aload_n 0, 1) := by decide +kernel
theorem dX7_isSo_66 : decode cX7_isSo 66 = .ok (.getfield 49, 3) := by decide +kernel
theorem dX7_isSo_69 : decode cX7_isSo 69 = .ok (.iload_n 1, 1) := by decide +kernel
theorem dX7_isSo_70 : decode cX7_isSo 70 = .ok (.iconst 4, 1) := by decide +kernel
theorem dX7_isSo_71 : decode cX7_isSo 71 = .ok (.iadd, 1) := by decide +kernel
theorem dX7_isSo_72 : decode cX7_isSo 72 = .ok (.iaload, 1) := by decide +kernel
theorem dX7_isSo_73 : decode cX7_isSo 73 = .ok (.invokevirtual 92, 3) := by decide +kernel
theorem dX7_isSo_76 : decode cX7_isSo 76 = .ok (.istore_n 2, 1) := by decide +kernel
theorem dX7_isSo_77 : decode cX7_isSo 77 = .ok (.return_, 1) := by decide +kernel
theorem dX7_text_0 : decode cX7_text 0 = .ok (.aload_n 0, 1) := by decide +kernel
theorem dX7_text_1 : decode cX7_text 1 = .ok (.iconst 0, 1) := by decide +kernel
theorem dX7_text_2 : decode cX7_text 2 = .ok (.putfield 230, 3) := by decide +kernel
theorem dX7_text_5 : decode cX7_text 5 = .ok (.aload_n 0, 1) := by decide +kernel
theorem dX7_text_6 : decode cX7_text 6 = .ok (.iconst 0, 1) := by decide +kernel
theorem dX7_text_7 : decode cX7_text 7 = .ok (.putfield 252, 3) := by decide +kernel
theorem dX7_text_10 : decode cX7_text 10 = .ok (.aload_n 0, 1) := by decide +kernel
theorem dX7_text_11 : decode cX7_text 11 = .ok (.iconst 0, 1) := by decide +kernel
theorem dX7_text_12 : decode cX7_text 12 = .ok (.putfield 263, 3) := by decide +kernel
theorem dX7_text_15 : decode cX7_text 15 = .ok (.aload_n 0, 1) := by decide +kernel
theorem dX7_text_16 : decode cX7_text 16 = .ok (.aload_n 0, 1) := by decide +kernel
theorem dX7_text_17 : decode cX7_text 17 = .ok (.getfield 9, 3) := by decide +kernel
theorem dX7_text_20 : decode cX7_text 20 = .ok (.iconst 1, 1) := by decide +kernel
theorem dX7_text_21 : decode cX7_text 21 = .ok (.iaload, 1) := by decide +kernel
theorem dX7_text_22 : decode cX7_text 22 = .ok (.putfield 278, 3) := by decide +kernel
theorem dX7_text_25 : decode cX7_text 25 = .ok (.iconst 0, 1) := by decide +kernel
theorem dX7_text_26 : decode cX7_text 26 = .ok (.istore_n 1, 1) := by decide +kernel
theorem dX7_text_27 : decode cX7_text 27 = .ok (.iload_n 1, 1) := by decide +kernel
theorem dX7_text_28 : decode cX7_text 28 = .ok (.aload_n 0, 1) := by decide +kernel
theorem dX7_text_29 : decode cX7_text 29 = .ok (.getfield 278, 3) := by decide +kernel
theorem dX7_text_32 : decode cX7_text 32 = .ok (.if_icmp .ge 21, 3) := by decide +kernel
theorem dX7_text_35 : decode cX7_text 35 = .ok (.aload_n 0, 1) := by decide +kernel
theorem dX7_text_36 : decode cX7_text 36 = .ok (.getfield 52, 3) := by decide +kernel
theorem dX7_text_39 : decode cX7_text 39 = .ok (.iload_n 1, 1) := by decide +kernel
theorem dX7_text_40 : decode cX7_text 40 = .ok (.aload_n 0, 1) := by decide +kernel
theorem dX7_text_41 : decode cX7_text 41 = .ok (.iload_n 1, 1) := by decide +kernel
theorem dX7_text_42 : decode cX7_text 42 = .ok (.iconst 1, 1) := by decide +kernel
theorem dX7_text_43 : decode cX7_text 43 = .ok (.invokevirtual 99, 3) := by decide +kernel
theorem dX7_text_46 : decode cX7_text 46 = .ok (.iastore, 1) := by decide +kernel
theorem dX7_text_47 : decode cX7_text 47 = .ok (.iinc 1 1, 3) := by decide +kernel
theorem dX7_text_50 : decode cX7_text 50 = .ok (.goto (-23), 3) := by decide +kernel
theorem dX7_text_53 : decode cX7_text 53 = .ok (.aload_n 0, 1) := by decide +kernel
theorem dX7_text_54 : decode cX7_text 54 = .ok (.invokevirtual 256, 3) := by decide +kernel
theorem dX7_text_57 : decode cX7_text 57 = .ok (.aload_n 0, 1) := by decide +kernel
theorem dX7_text_58 : decode cX7_text 58 = .ok (.invokevirtual 294, 3) := by decide +kernel
theorem dX7_text_61 : decode cX7_text 61 = .ok (.aload_n 0, 1) := by decide +kernel
theorem dX7_text_62 : decode cX7_text 62 = .ok (.getfield 252, 3) := by decide +kernel
theorem dX7_text_65 : decode cX7_text 65 = .ok (.ifCond .ne 37, 3) := by decide +kernel
theorem dX7_text_68 : decode cX7_text 68 = .ok (.aload_n 0, 1) := by decide +kernel
theorem dX7_text_69 : decode cX7_text 69 = .ok (.getfield 242, 3) := by decide +kernel
theorem dX7_text_72 : decode cX7_text 72 = .ok (.iconst 3, 1) := by decide +kernel
theorem dX7_text_73 : decode cX7_text 73 = .ok (.if_icmp .ne 29, 3) := by decide +kernel
theorem dX7_text_76 : decode cX7_text 76 = .ok (.aload_n 0, 1) := by decide +kernel
theorem dX7_text_77 : decode cX7_text 77 = .ok (.getfield 26, 3) := by decide +kernel
theorem dX7_text_80 : decode cX7_text 80 = .ok (.aload_n 0, 1) := by decide +kernel
theorem dX7_text_81 : decode cX7_text 81 = .ok (.getfield 233, 3) := by decide +kernel
theorem dX7_text_84 : decode cX7_text 84 = .ok (.iaload, 1) := by decide +kernel
theorem dX7_text_85 : decode cX7_text 85 = .ok (.bipush 59, 2) := by decide +kernel
theorem dX7_text_87 : decode cX7_text 87 = .ok (.if_icmp .ne 15, 3) := by decide +kernel
theorem dX7_text_90 : decode cX7_text 90 = .ok (.aload_n 0, 1) := by decide +kernel
theorem dX7_text_91 : decode cX7_text 91 = .ok (.iconst 1, 1) := by decide +kernel
theorem dX7_text_92 : decode cX7_text 92 = .ok (.invokevirtual 259, 3) := by decide +kernel
theorem dX7_text_95 : decode cX7_text 95 = .ok (.aload_n 0, 1) := by decide +kernel
theorem dX7_text_96 : decode cX7_text 96 = .ok (.invokevirtual 294, 3) := by decide +kernel
theorem dX7_text_99 : decode cX7_text 99 = .ok (.goto (-38), 3) := by decide +kernel
theorem dX7_text_102 : decode cX7_text 102 = .ok (.aload_n 0, 1) := by decide +kernel
theorem dX7_text_103 : decode cX7_text 103 = .ok (.aload_n 0, 1) := by decide +kernel
theorem dX7_text_104 : decode cX7_text 104 = .ok (.getfield 242, 3) := by decide +kernel
theorem dX7_text_107 : decode cX7_text 107 = .ok (.ifCond .ne 7, 3) := by decide +kernel
theorem dX7_text_110 : decode cX7_text 110 = .ok (.iconst 1, 1) := by decide +kernel
theorem dX7_text_111 : decode cX7_text 111 = .ok (.goto 4, 3) := by decide +kernel
theorem dX7_text_114 : decode cX7_text 114 = .ok (.iconst 0, 1) := by decide +kernel
theorem dX7_text_115 : decode cX7_text 115 = .ok (.invokevirtual 259, 3) := by decide +kernel
theorem dX7_text_118 : decode cX7_text 118 = .ok (.aload_n 0, 1) := by decide +kernel
theorem dX7_text_119 : decode cX7_text 119 = .ok (.iconst 0, 1) := by decide +kernel
theorem dX7_text_120 : decode cX7_text 120 = .ok (.putfield 227, 3) := by decide +kernel
theorem dX7_text_123 : decode cX7_text 123 = .ok (.aload_n 0, 1) := by decide +kernel
theorem dX7_text_124 : decode cX7_text 124 = .ok (.getfield 252, 3) := by decide +kernel
theorem dX7_text_127 : decode cX7_text 127 = .ok (.ifCond .eq 10, 3) := by decide +kernel
theorem dX7_text_130 : decode cX7_text 130 = .ok (.iconst (-1), 1) := by decide +kernel
theorem dX7_text_131 : decode cX7_text 131 = .ok (.aload_n 0, 1) := by decide +kernel
theorem dX7_text_132 : decode cX7_text 132 = .ok (.getfield 233, 3) := by decide +kernel
theorem dX7_text_135 : decode cX7_text 135 = .ok (.isub, 1) := by decide +kernel
theorem dX7_text_136 : decode cX7_text 136 = .ok (.ireturn, 1) := by decide +kernel
theorem dX7_text_137 : decode cX7_text 137 = .ok (.iconst 0, 1) := by decide +kernel
theorem dX7_text_138 : decode cX7_text 138 = .ok (.istore_n 1, 1) := by decide +kernel
theorem dX7_text_139 : decode cX7_text 139 = .ok (.iload_n 1, 1) := by decide +kernel
theorem dX7_text_140 : decode cX7_text 140 = .ok (.aload_n 0, 1) := by decide +kernel
theorem dX7_text_141 : decode cX7_text 141 = .ok (.getfield 263, 3) := by decide +kernel
theorem dX7_text_144 : decode cX7_text 144 = .ok (.if_icmp .ge 16, 3) := by decide +kernel
theorem dX7_text_147 : decode cX7_text 147 = .ok (.aload_n 0, 1) := by decide +kernel
theorem dX7_text_148 : decode cX7_text 148 = .ok (.iconst 5, 1) := by decide +kernel
theorem dX7_text_149 : decode cX7_text 149 = .ok (.iload_n 1, 1) := by decide +kernel
theorem dX7_text_150 : decode cX7_text 150 = .ok (.imul, 1) := by decide +kernel
theorem dX7_text_151 : decode cX7_text 151 = .ok (.invokevirtual 297, 3) := by decide +kernel
theorem dX7_text_154 : decode cX7_text 154 = .ok (.iinc 1 1, 3) := by decide +kernel
theorem dX7_text_157 : decode cX7_text 157 = .ok (.goto (-18), 3) := by decide +kernel
theorem dX7_text_160 : decode cX7_text 160 = .ok (.aload_n 0, 1) := by decide +kernel
theorem dX7_text_161 : decode cX7_text 161 = .ok (.getfield 263, 3) := by decide +kernel
theorem dX7_text_164 : decode cX7_text 164 = .ok (.ireturn, 1) := by decide +kernel
theorem dX7_isSpot_0 : decode cX7_isSpot 0 = .ok (.iload_n 0, 1) := by decide +kernel
theorem dX7_isSpot_1 : decode cX7_isSpot 1 = .ok (.iconst 0, 1) := by decide +kernel
theorem dX7_isSpot_2 : decode cX7_isSpot 2 = .ok (.bipush 9, 2) := by decide +kernel
theorem dX7_isSpot_4 : decode cX7_isSpot 4 = .ok (.invokestatic 72, 3) := by decide +kernel
theorem dX7_isSpot_7 : decode cX7_isSpot 7 = .ok (.ireturn, 1) := by decide +kernel
theorem dX7_hold_0 : decode cX7_hold 0 = .ok (.iload_n 1, 1) := by decide +kernel
theorem dX7_hold_1 : decode cX7_hold 1 = .ok (.invokestatic 300, 3) := by decide +kernel
theorem dX7_hold_4 : decode cX7_hold 4 = .ok (.ifCond .eq 16, 3) := by decide +kernel
theorem dX7_hold_7 : decode cX7_hold 7 = .ok (.iload_n 2, 1) := by decide +kernel
theorem dX7_hold_8 : decode cX7_hold 8 = .ok (.iconst (-1), 1) := by decide +kernel
theorem dX7_hold_9 : decode cX7_hold 9 = .ok (.if_icmp .eq 18, 3) := by decide +kernel
theorem dX7_hold_12 : decode cX7_hold 12 = .ok (.aload_n 0, 1) := by decide +kernel
theorem dX7_hold_13 : decode cX7_hold 13 = .ok (.iload_n 2, 1) := by decide +kernel
theorem dX7_hold_14 : decode cX7_hold 14 = .ok (.invokevirtual 124, 3) := by decide +kernel
theorem dX7_hold_17 : decode cX7_hold 17 = .ok (.ifCond .ne 10, 3) := by decide +kernel
theorem dX7_hold_20 : decode cX7_hold 20 = .ok (.aload_n 0, 1) := by decide +kernel
theorem dX7_hold_21 : decode cX7_hold 21 = .ok (.ldc 67, 2) := by decide +kernel
theorem dX7_hold_23 : decode cX7_hold 23 = .ok (.invokevirtual 87, 3) := by decide +kernel
theorem dX7_hold_26 : decode cX7_hold 26 = .ok (.ireturn, 1) := by decide +kernel
theorem dX7_hold_27 : decode cX7_hold 27 = .ok (.aload_n 0, 1) := by decide +kernel
theorem dX7_hold_28 : decode cX7_hold 28 = .ok (.getfield 9, 3) := by decide +kernel
theorem dX7_hold_31 : decode cX7_hold 31 = .ok (.iconst 3, 1) := by decide +kernel
theorem dX7_hold_32 : decode cX7_hold 32 = .ok (.iload_n 1, 1) := by decide +kernel
theorem dX7_hold_33 : decode cX7_hold 33 = .ok (.iadd, 1) := by decide +kernel
theorem dX7_hold_34 : decode cX7_hold 34 = .ok (.iload_n 2, 1) := by decide +kernel
theorem dX7_hold_35 : decode cX7_hold 35 = .ok (.iastore, 1) := by decide +kernel
theorem dX7_hold_36 : decode cX7_hold 36 = .ok (.iconst 1, 1) := by decide +kernel
theorem dX7_hold_37 : decode cX7_hold 37 = .ok (.ireturn, 1) := by decide +kernel
theorem dX7_as_0 : decode cX7_as 0 = .ok (.iload_n 1, 1) := by decide +kernel
theorem dX7_as_1 : decode cX7_as 1 = .ok (.invokestatic 300, 3) := by decide +kernel
theorem dX7_as_4 : decode cX7_as 4 = .ok (.ifCond .eq 10, 3) := by decide +kernel
theorem dX7_as_7 : decode cX7_as 7 = .ok (.iload_n 2, 1) := by decide +kernel
theorem dX7_as_8 : decode cX7_as 8 = .ok (.invokestatic 84, 3) := by decide +kernel
theorem dX7_as_11 : decode cX7_as 11 = .ok (.ifCond .ne 10, 3) := by decide +kernel
theorem dX7_as_14 : decode cX7_as 14 = .ok (.aload_n 0, 1) := by decide +kernel
theorem dX7_as_15 : decode cX7_as 15 = .ok (.ldc 67, 2) := by decide +kernel
theorem dX7_as_17 : decode cX7_as 17 = .ok (.invokevirtual 87, 3) := by decide +kernel
theorem dX7_as_20 : decode cX7_as 20 = .ok (.ireturn, 1) := by decide +kernel
theorem dX7_as_21 : decode cX7_as 21 = .ok (.aload_n 0, 1) := by decide +kernel
theorem dX7_as_22 : decode cX7_as 22 = .ok (.getfield 9, 3) := by decide +kernel
theorem dX7_as_25 : decode cX7_as 25 = .ok (.iconst 3, 1) := by decide +kernel
theorem dX7_as_26 : decode cX7_as 26 = .ok (.iload_n 1, 1) := by decide +kernel
theorem dX7_as_27 : decode cX7_as 27 = .ok (.iadd, 1) := by decide +kernel
theorem dX7_as_28 : decode cX7_as 28 = .ok (.iaload, 1) := by decide +kernel
theorem dX7_as_29 : decode cX7_as 29 = .ok (.istore_n 3, 1) := by decide +kernel
theorem dX7_as_30 : decode cX7_as 30 = .ok (.iload_n 3, 1) := by decide +kernel
theorem dX7_as_31 : decode cX7_as 31 = .ok (.ifCond .ge 11, 3) := by decide +kernel
theorem dX7_as_34 : decode cX7_as 34 = .ok (.aload_n 0, 1) := by decide +kernel
theorem dX7_as_35 : decode cX7_as 35 = .ok (.ldc_w 303, 3) := by decide +kernel
theorem dX7_as_38 : decode cX7_as 38 = .ok (.invokevirtual 87, 3) := by decide +kernel
theorem dX7_as_41 : decode cX7_as 41 = .ok (.ireturn, 1) := by decide +kernel
theorem dX7_as_42 : decode cX7_as 42 = .ok (.aload_n 0, 1) := by decide +kernel
theorem dX7_as_43 : decode cX7_as 43 = .ok (.iload_n 3, 1) := by decide +kernel
theorem dX7_as_44 : decode cX7_as 44 = .ok (.iconst 0, 1) := by decide +kernel
theorem dX7_as_45 : decode cX7_as 45 = .ok (.invokevirtual 99, 3) := by decide +kernel
theorem dX7_as_48 : decode cX7_as 48 = .ok (.iload_n 2, 1) := by decide +kernel
theorem dX7_as_49 : decode cX7_as 49 = .ok (.invokestatic 110, 3) := by decide +kernel
theorem dX7_as_52 : decode cX7_as 52 = .ok (.ifCond .eq 7, 3) := by decide +kernel
theorem dX7_as_55 : decode cX7_as 55 = .ok (.iload_n 3, 1) := by decide +kernel
theorem dX7_as_56 : decode cX7_as 56 = .ok (.goto 10, 3) := by decide +kernel
theorem dX7_as_59 : decode cX7_as 59 = .ok (.aload_n 0, 1) := by decide +kernel
theorem dX7_as_60 : decode cX7_as 60 = .ok (.ldc_w 304, 3) := by decide +kernel
theorem dX7_as_63 : decode cX7_as 63 = .ok (.invokevirtual 87, 3) := by decide +kernel
theorem dX7_as_66 : decode cX7_as 66 = .ok (.ireturn, 1) := by decide +kernel
theorem dX7_isSheet_0 : decode cX7_isSheet 0 = .ok (.iload_n 0, 1) := by decide +kernel
theorem dX7_isSheet_1 : decode cX7_isSheet 1 = .ok (.iconst 0, 1) := by decide +kernel
theorem dX7_isSheet_2 : decode cX7_isSheet 2 = .ok (.iconst 3, 1) := by decide +kernel
theorem dX7_isSheet_3 : decode cX7_isSheet 3 = .ok (.invokestatic 72, 3) := by decide +kernel
theorem dX7_isSheet_6 : decode cX7_isSheet 6 = .ok (.ireturn, 1) := by decide +kernel
theorem dX7_cutTo_0 : decode cX7_cutTo 0 = .ok (.iload_n 1, 1) := by decide +kernel
theorem dX7_cutTo_1 : decode cX7_cutTo 1 = .ok (.bipush 8, 2) := by decide +kernel
theorem dX7_cutTo_3 : decode cX7_cutTo 3 = .ok (.if_icmp .ne 8, 3) := by decide +kernel
theorem dX7_cutTo_6 : decode cX7_cutTo 6 = .ok (.iload_n 0, 1) := by decide +kernel
theorem dX7_cutTo_7 : decode cX7_cutTo 7 = .ok (.i2b, 1) := by decide +kernel
theorem dX7_cutTo_8 : decode cX7_cutTo 8 = .ok (.goto 15, 3) := by decide +kernel
theorem dX7_cutTo_11 : decode cX7_cutTo 11 = .ok (.iload_n 1, 1) := by decide +kernel
theorem dX7_cutTo_12 : decode cX7_cutTo 12 = .ok (.bipush 16, 2) := by decide +kernel
theorem dX7_cutTo_14 : decode cX7_cutTo 14 = .ok (.if_icmp .ne 8, 3) := by decide +kernel
theorem dX7_cutTo_17 : decode cX7_cutTo 17 = .ok (.iload_n 0, 1) := by decide +kernel
theorem dX7_cutTo_18 : decode cX7_cutTo 18 = .ok (.i2s, 1) := by decide +kernel
theorem dX7_cutTo_19 : decode cX7_cutTo 19 = .ok (.goto 4, 3) := by decide +kernel
theorem dX7_cutTo_22 : decode cX7_cutTo 22 = .ok (.iload_n 0, 1) := by decide +kernel
theorem dX7_cutTo_23 : decode cX7_cutTo 23 = .ok (.ireturn, 1) := by decide +kernel
theorem dX7_sheet_0 : decode cX7_sheet 0 = .ok (.iload_n 1, 1) := by decide +kernel
theorem dX7_sheet_1 : decode cX7_sheet 1 = .ok (.invokestatic 305, 3) := by decide +kernel
theorem dX7_sheet_4 : decode cX7_sheet 4 = .ok (.ifCond .eq 25, 3) := by decide +kernel
theorem dX7_sheet_7 : decode cX7_sheet 7 = .ok (.iload_n 2, 1) := by decide +kernel
theorem dX7_sheet_8 : decode cX7_sheet 8 = .ok (.ifCond .eq 28, 3) := by decide +kernel
theorem dX7_sheet_11 : decode cX7_sheet 11 = .ok (.iload_n 2, 1) := by decide +kernel
theorem dX7_sheet_12 : decode cX7_sheet 12 = .ok (.bipush 8, 2) := by decide +kernel
theorem dX7_sheet_14 : decode cX7_sheet 14 = .ok (.if_icmp .eq 22, 3) := by decide +kernel
theorem dX7_sheet_17 : decode cX7_sheet 17 = .ok (.iload_n 2, 1) := by decide +kernel
theorem dX7_sheet_18 : decode cX7_sheet 18 = .ok (.bipush 16, 2) := by decide +kernel
theorem dX7_sheet_20 : decode cX7_sheet 20 = .ok (.if_icmp .eq 16, 3) := by decide +kernel
theorem dX7_sheet_23 : decode cX7_sheet 23 = .ok (.iload_n 2, 1) := by decide +kernel
theorem dX7_sheet_24 : decode cX7_sheet 24 = .ok (.bipush 32, 2) := by decide +kernel
theorem dX7_sheet_26 : decode cX7_sheet 26 = .ok (.if_icmp .eq 10, 3) := by decide +kernel
theorem dX7_sheet_29 : decode cX7_sheet 29 = .ok (.aload_n 0, 1) := by decide +kernel
theorem dX7_sheet_30 : decode cX7_sheet 30 = .ok (.ldc 67, 2) := by decide +kernel
theorem dX7_sheet_32 : decode cX7_sheet 32 = .ok (.invokevirtual 87, 3) := by decide +kernel
theorem dX7_sheet_35 : decode cX7_sheet 35 = .ok (.ireturn, 1) := by decide +kernel
theorem dX7_sheet_36 : decode cX7_sheet 36 = .ok (.iload_n 3, 1) := by decide +kernel
theorem dX7_sheet_37 : decode cX7_sheet 37 = .ok (.ifCond .ge 11, 3) := by decide +kernel
theorem dX7_sheet_40 : decode cX7_sheet 40 = .ok (.aload_n 0, 1) := by decide +kernel
theorem dX7_sheet_41 : decode cX7_sheet 41 = .ok (.ldc_w 308, 3) := by decide +kernel
theorem dX7_sheet_44 : decode cX7_sheet 44 = .ok (.invokevirtual 87, 3) := by decide +kernel
theorem dX7_sheet_47 : decode cX7_sheet 47 = .ok (.ireturn, 1) := by decide +kernel
theorem dX7_sheet_48 : decode cX7_sheet 48 = .ok (.iload_n 3, 1) := by decide +kernel
theorem dX7_sheet_49 : decode cX7_sheet 49 = .ok (.bipush 40, 2) := by decide +kernel
theorem dX7_sheet_51 : decode cX7_sheet 51 = .ok (.if_icmp .le 10, 3) := by decide +kernel
theorem dX7_sheet_54 : decode cX7_sheet 54 = .ok (.aload_n 0, 1) := by decide +kernel
theorem dX7_sheet_55 : decode cX7_sheet 55 = .ok (.ldc 67, 2) := by decide +kernel
theorem dX7_sheet_57 : decode cX7_sheet 57 = .ok (.invokevirtual 87, 3) := by decide +kernel
theorem dX7_sheet_60 : decode cX7_sheet 60 = .ok (.ireturn, 1) := by decide +kernel
theorem dX7_sheet_61 : decode cX7_sheet 61 = .ok (.aload_n 0, 1) := by decide +kernel
theorem dX7_sheet_62 : decode cX7_sheet 62 = .ok (.getfield 55, 3) := by decide +kernel
theorem dX7_sheet_65 : decode cX7_sheet 65 = .ok (.iload_n 1, 1) := by decide +kernel
theorem dX7_sheet_66 : decode cX7_sheet 66 = .ok (.iload_n 2, 1) := by decide +kernel
theorem dX7_sheet_67 : decode cX7_sheet 67 = .ok (.iastore, 1) := by decide +kernel
theorem dX7_sheet_68 : decode cX7_sheet 68 = .ok (.aload_n 0, 1) := by decide +kernel
theorem dX7_sheet_69 : decode cX7_sheet 69 = .ok (.getfield 58, 3) := by decide +kernel
theorem dX7_sheet_72 : decode cX7_sheet 72 = .ok (.iload_n 1, 1) := by decide +kernel
theorem dX7_sheet_73 : decode cX7_sheet 73 = .ok (.iload_n 2, 1) := by decide +kernel
theorem dX7_sheet_74 : decode cX7_sheet 74 = .ok (.ifCond .ne 7, 3) := by decide +kernel
theorem dX7_sheet_77 : decode cX7_sheet 77 = .ok (.iconst 0, 1) := by decide +kernel
theorem dX7_sheet_78 : decode cX7_sheet 78 = .ok (.goto 4, 3) := by decide +kernel
theorem dX7_sheet_81 : decode cX7_sheet 81 = .ok (.iload_n 3, 1) := by decide +kernel
theorem dX7_sheet_82 : decode cX7_sheet 82 = .ok (.iastore, 1) := by decide +kernel
theorem dX7_sheet_83 : decode cX7_sheet 83 = .ok (.iconst 0, 1) := by decide +kernel
theorem dX7_sheet_84 : decode cX7_sheet 84 = .ok (.istore 4, 2) := by decide +kernel
theorem dX7_sheet_86 : decode cX7_sheet 86 = .ok (.iload 4, 2) := by decide +kernel
theorem dX7_sheet_88 : decode cX7_sheet 88 = .ok (.bipush 40, 2) := by decide +kernel
theorem dX7_sheet_90 : decode cX7_sheet 90 = .ok (.if_icmp .ge 22, 3) := by decide +kernel
theorem dX7_sheet_93 : decode cX7_sheet 93 = .ok (.aload_n 0, 1) := by decide +kernel
theorem dX7_sheet_94 : decode cX7_sheet 94 = .ok (.getfield 61, 3) := by decide +kernel
theorem dX7_sheet_97 : decode cX7_sheet 97 = .ok (.bipush 40, 2) := by decide +kernel
theorem dX7_sheet_99 : decode cX7_sheet 99 = .ok (.iload_n 1, 1) := by decide +kernel
theorem dX7_sheet_100 : decode cX7_sheet 100 = .ok (.imul, 1) := by decide +kernel
theorem dX7_sheet_101 : decode cX7_sheet 101 = .ok (.iload 4, 2) := by decide +kernel
theorem dX7_sheet_103 : decode cX7_sheet 103 = .ok (.iadd, 1) := by decide +kernel
theorem dX7_sheet_104 : decode cX7_sheet 104 = .ok (.iconst 0, 1) := by decide +kernel
theorem dX7_sheet_105 : decode cX7_sheet 105 = .ok (.iastore, 1) := by decide +kernel
theorem dX7_sheet_106 : decode cX7_sheet 106 = .ok (.iinc 4 1, 3) := by decide +kernel
theorem dX7_sheet_109 : decode cX7_sheet 109 = .ok (.goto (-23), 3) := by decide +kernel
theorem dX7_sheet_112 : decode cX7_sheet 112 = .ok (.aload_n 0, 1) := by decide +kernel
theorem dX7_sheet_113 : decode cX7_sheet 113 = .ok (.getfield 58, 3) := by decide +kernel
theorem dX7_sheet_116 : decode cX7_sheet 116 = .ok (.iload_n 1, 1) := by decide +kernel
theorem dX7_sheet_117 : decode cX7_sheet 117 = .ok (.iaload, 1) := by decide +kernel
theorem dX7_sheet_118 : decode cX7_sheet 118 = .ok (.ireturn, 1) := by decide +kernel
theorem dX7_write_0 : decode cX7_write 0 = .ok (.iload_n 1, 1) := by decide +kernel
theorem dX7_write_1 : decode cX7_write 1 = .ok (.invokestatic 305, 3) := by decide +kernel
theorem dX7_write_4 : decode cX7_write 4 = .ok (.ifCond .ne 10, 3) := by decide +kernel
theorem dX7_write_7 : decode cX7_write 7 = .ok (.aload_n 0, 1) := by decide +kernel
theorem dX7_write_8 : decode cX7_write 8 = .ok (.ldc 67, 2) := by decide +kernel
theorem dX7_write_10 : decode cX7_write 10 = .ok (.invokevirtual 87, 3) := by decide +kernel
theorem dX7_write_13 : decode cX7_write 13 = .ok (.ireturn, 1) := by decide +kernel
theorem dX7_write_14 : decode cX7_write 14 = .ok (.aload_n 0, 1) := by decide +kernel
theorem dX7_write_15 : decode cX7_write 15 = .ok (.getfield 55, 3) := by decide +kernel
theorem dX7_write_18 : decode cX7_write 18 = .ok (.iload_n 1, 1) := by decide +kernel
theorem dX7_write_19 : decode cX7_write 19 = .ok (.iaload, 1) := by decide +kernel
theorem dX7_write_20 : decode cX7_write 20 = .ok (.ifCond .ne 11, 3) := by decide +kernel
theorem dX7_write_23 : decode cX7_write 23 = .ok (.aload_n 0, 1) := by decide +kernel
theorem dX7_write_24 : decode cX7_write 24 = .ok (.ldc_w 303, 3) := by decide +kernel
theorem dX7_write_27 : decode cX7_write 27 = .ok (.invokevirtual 87, 3) := by decide +kernel
theorem dX7_write_30 : decode cX7_write 30 = .ok (.ireturn, 1) := by decide +kernel
theorem dX7_write_31 : decode cX7_write 31 = .ok (.iload_n 2, 1) := by decide +kernel
theorem dX7_write_32 : decode cX7_write 32 = .ok (.iconst 0, 1) := by decide +kernel
theorem dX7_write_33 : decode cX7_write 33 = .ok (.aload_n 0, 1) := by decide +kernel
theorem dX7_write_34 : decode cX7_write 34 = .ok (.getfield 58, 3) := by decide +kernel
theorem dX7_write_37 : decode cX7_write 37 = .ok (.iload_n 1, 1) := by decide +kernel
theorem dX7_write_38 : decode cX7_write 38 = .ok (.iaload, 1) := by decide +kernel
theorem dX7_write_39 : decode cX7_write 39 = .ok (.iconst 1, 1) := by decide +kernel
theorem dX7_write_40 : decode cX7_write 40 = .ok (.isub, 1) := by decide +kernel
theorem dX7_write_41 : decode cX7_write 41 = .ok (.invokestatic 72, 3) := by decide +kernel
theorem dX7_write_44 : decode cX7_write 44 = .ok (.ifCond .ne 10, 3) := by decide +kernel
theorem dX7_write_47 : decode cX7_write 47 = .ok (.aload_n 0, 1) := by decide +kernel
theorem dX7_write_48 : decode cX7_write 48 = .ok (.ldc 67, 2) := by decide +kernel
theorem dX7_write_50 : decode cX7_write 50 = .ok (.invokevirtual 87, 3) := by decide +kernel
theorem dX7_write_53 : decode cX7_write 53 = .ok (.ireturn, 1) := by decide +kernel
theorem dX7_write_54 : decode cX7_write 54 = .ok (.aload_n 0, 1) := by decide +kernel
theorem dX7_write_55 : decode cX7_write 55 = .ok (.getfield 61, 3) := by decide +kernel
theorem dX7_write_58 : decode cX7_write 58 = .ok (.bipush 40, 2) := by decide +kernel
theorem dX7_write_60 : decode cX7_write 60 = .ok (.iload_n 1, 1) := by decide +kernel
theorem dX7_write_61 : decode cX7_write 61 = .ok (.imul, 1) := by decide +kernel
theorem dX7_write_62 : decode cX7_write 62 = .ok (.iload_n 2, 1) := by decide +kernel
theorem dX7_write_63 : decode cX7_write 63 = .ok (.iadd, 1) := by decide +kernel
theorem dX7_write_64 : decode cX7_write 64 = .ok (.iload_n 3, 1) := by decide +kernel
theorem dX7_write_65 : decode cX7_write 65 = .ok (.aload_n 0, 1) := by decide +kernel
theorem dX7_write_66 : decode cX7_write 66 = .ok (.getfield 55, 3) := by decide +kernel
theorem dX7_write_69 : decode cX7_write 69 = .ok (.iload_n 1, 1) := by decide +kernel
theorem dX7_write_70 : decode cX7_write 70 = .ok (.iaload, 1) := by decide +kernel
theorem dX7_write_71 : decode cX7_write 71 = .ok (.invokestatic 309, 3) := by decide +kernel
theorem dX7_write_74 : decode cX7_write 74 = .ok (.iastore, 1) := by decide +kernel
theorem dX7_write_75 : decode cX7_write 75 = .ok (.iconst 1, 1) := by decide +kernel
theorem dX7_write_76 : decode cX7_write 76 = .ok (.ireturn, 1) := by decide +kernel
theorem dX7_copy_0 : decode cX7_copy 0 = .ok (.iload_n 1, 1) := by decide +kernel
theorem dX7_copy_1 : decode cX7_copy 1 = .ok (.invokestatic 305, 3) := by decide +kernel
theorem dX7_copy_4 : decode cX7_copy 4 = .ok (.ifCond .eq 10, 3) := by decide +kernel
theorem dX7_copy_7 : decode cX7_copy 7 = .ok (.iload_n 3, 1) := by decide +kernel
theorem dX7_copy_8 : decode cX7_copy 8 = .ok (.invokestatic 305, 3) := by decide +kernel
theorem dX7_copy_11 : decode cX7_copy 11 = .ok (.ifCond .ne 10, 3) := by decide +kernel
theorem dX7_copy_14 : decode cX7_copy 14 = .ok (.aload_n 0, 1) := by decide +kernel
theorem dX7_copy_15 : decode cX7_copy 15 = .ok (.ldc 67, 2) := by decide +kernel
theorem dX7_copy_17 : decode cX7_copy 17 = .ok (.invokevirtual 87, 3) := by decide +kernel
theorem dX7_copy_20 : decode cX7_copy 20 = .ok (.ireturn, 1) := by decide +kernel
theorem dX7_copy_21 : decode cX7_copy 21 = .ok (.aload_n 0, 1) := by decide +kernel
theorem dX7_copy_22 : decode cX7_copy 22 = .ok (.getfield 55, 3) := by decide +kernel
theorem dX7_copy_25 : decode cX7_copy 25 = .ok (.iload_n 1, 1) := by decide +kernel
theorem dX7_copy_26 : decode cX7_copy 26 = .ok (.iaload, 1) := by decide +kernel
theorem dX7_copy_27 : decode cX7_copy 27 = .ok (.ifCond .eq 12, 3) := by decide +kernel
theorem dX7_copy_30 : decode cX7_copy 30 = .ok (.aload_n 0, 1) := by decide +kernel
theorem dX7_copy_31 : decode cX7_copy 31 = .ok (.getfield 55, 3) := by decide +kernel
theorem dX7_copy_34 : decode cX7_copy 34 = .ok (.iload_n 3, 1) := by decide +kernel
theorem dX7_copy_35 : decode cX7_copy 35 = .ok (.iaload, 1) := by decide +kernel
theorem dX7_copy_36 : decode cX7_copy 36 = .ok (.ifCond .ne 11, 3) := by decide +kernel
theorem dX7_copy_39 : decode cX7_copy 39 = .ok (.aload_n 0, 1) := by decide +kernel
theorem dX7_copy_40 : decode cX7_copy 40 = .ok (.ldc_w 303, 3) := by decide +kernel
theorem dX7_copy_43 : decode cX7_copy 43 = .ok (.invokevirtual 87, 3) := by decide +kernel
theorem dX7_copy_46 : decode cX7_copy 46 = .ok (.ireturn, 1) := by decide +kernel
theorem dX7_copy_47 : decode cX7_copy 47 = .ok (.aload_n 0, 1) := by decide +kernel
theorem dX7_copy_48 : decode cX7_copy 48 = .ok (.getfield 55, 3) := by decide +kernel
theorem dX7_copy_51 : decode cX7_copy 51 = .ok (.iload_n 1, 1) := by decide +kernel
theorem dX7_copy_52 : decode cX7_copy 52 = .ok (.iaload, 1) := by decide +kernel
theorem dX7_copy_53 : decode cX7_copy 53 = .ok (.aload_n 0, 1) := by decide +kernel
theorem dX7_copy_54 : decode cX7_copy 54 = .ok (.getfield 55, 3) := by decide +kernel
theorem dX7_copy_57 : decode cX7_copy 57 = .ok (.iload_n 3, 1) := by decide +kernel
theorem dX7_copy_58 : decode cX7_copy 58 = .ok (.iaload, 1) := by decide +kernel
theorem dX7_copy_59 : decode cX7_copy 59 = .ok (.if_icmp .eq 11, 3) := by decide +kernel
theorem dX7_copy_62 : decode cX7_copy 62 = .ok (.aload_n 0, 1) := by decide +kernel
theorem dX7_copy_63 : decode cX7_copy 63 = .ok (.ldc_w 304, 3) := by decide +kernel
theorem dX7_copy_66 : decode cX7_copy 66 = .ok (.invokevirtual 87, 3) := by decide +kernel
theorem dX7_copy_69 : decode cX7_copy 69 = .ok (.ireturn, 1) := by decide +kernel
theorem dX7_copy_70 : decode cX7_copy 70 = .ok (.iload_n 2, 1) := by decide +kernel
theorem dX7_copy_71 : decode cX7_copy 71 = .ok (.ifCond .lt 48, 3) := by decide +kernel
theorem dX7_copy_74 : decode cX7_copy 74 = .ok (.iload 4, 2) := by decide +kernel
theorem dX7_copy_76 : decode cX7_copy 76 = .ok (.ifCond .lt 43, 3) := by decide +kernel
theorem dX7_copy_79 : decode cX7_copy 79 = .ok (.iload 5, 2) := by decide +kernel
theorem dX7_copy_81 : decode cX7_copy 81 = .ok (.ifCond .lt 38, 3) := by decide +kernel
theorem dX7_copy_84 : decode cX7_copy 84 = .ok (.iload_n 2, 1) := by decide +kernel
theorem dX7_copy_85 : decode cX7_copy 85 = .ok (.i2l, 1) := by decide +kernel
theorem dX7_copy_86 : decode cX7_copy 86 = .ok (.iload 5, 2) := by decide +kernel
theorem dX7_copy_88 : decode cX7_copy 88 = .ok (.i2l, 1) := by decide +kernel
theorem dX7_copy_89 : decode cX7_copy 89 = .ok (.ladd, 1) := by decide +kernel
theorem dX7_copy_90 : decode cX7_copy 90 = .ok (.aload_n 0, 1) := by decide +kernel
theorem dX7_copy_91 : decode cX7_copy 91 = .ok (.getfield 58, 3) := by decide +kernel
theorem dX7_copy_94 : decode cX7_copy 94 = .ok (.iload_n 1, 1) := by decide +kernel
theorem dX7_copy_95 : decode cX7_copy 95 = .ok (.iaload, 1) := by decide +kernel
theorem dX7_copy_96 : decode cX7_copy 96 = .ok (.i2l, 1) := by decide +kernel
theorem dX7_copy_97 : decode cX7_copy 97 = .ok (.lcmp, 1) := by decide +kernel
theorem dX7_copy_98 : decode cX7_copy 98 = .ok (.ifCond .gt 21, 3) := by decide +kernel
theorem dX7_copy_101 : decode cX7_copy 101 = .ok (.iload 4, 2) := by decide +kernel
theorem dX7_copy_103 : decode cX7_copy 103 = .ok (.i2l, 1) := by decide +kernel
theorem dX7_copy_104 : decode cX7_copy 104 = .ok (.iload 5, 2) := by decide +kernel
theorem dX7_copy_106 : decode cX7_copy 106 = .ok (.i2l, 1) := by decide +kernel
theorem dX7_copy_107 : decode cX7_copy 107 = .ok (.ladd, 1) := by decide +kernel
theorem dX7_copy_108 : decode cX7_copy 108 = .ok (.aload_n 0, 1) := by decide +kernel
theorem dX7_copy_109 : decode cX7_copy 109 = .ok (.getfield 58, 3) := by decide +kernel
theorem dX7_copy_112 : decode cX7_copy 112 = .ok (.iload_n 3, 1) := by decide +kernel
theorem dX7_copy_113 : decode cX7_copy 113 = .ok (.iaload, 1) := by decide +kernel
theorem dX7_copy_114 : decode cX7_copy 114 = .ok (.i2l, 1) := by decide +kernel
theorem dX7_copy_115 : decode cX7_copy 115 = .ok (.lcmp, 1) := by decide +kernel
theorem dX7_copy_116 : decode cX7_copy 116 = .ok (.ifCond .le 10, 3) := by decide +kernel
theorem dX7_copy_119 : decode cX7_copy 119 = .ok (.aload_n 0, 1) := by decide +kernel
theorem dX7_copy_120 : decode cX7_copy 120 = .ok (.ldc 67, 2) := by decide +kernel
theorem dX7_copy_122 : decode cX7_copy 122 = .ok (.invokevirtual 87, 3) := by decide +kernel
theorem dX7_copy_125 : decode cX7_copy 125 = .ok (.ireturn, 1) := by decide +kernel
theorem dX7_copy_126 : decode cX7_copy 126 = .ok (.iconst 0, 1) := by decide +kernel
theorem dX7_copy_127 : decode cX7_copy 127 = .ok (.istore 6, 2) := by decide +kernel
theorem dX7_copy_129 : decode cX7_copy 129 = .ok (.iload 6, 2) := by decide +kernel
theorem dX7_copy_131 : decode cX7_copy 131 = .ok (.iload 5, 2) := by decide +kernel
theorem dX7_copy_133 : decode cX7_copy 133 = .ok (.if_icmp .ge 30, 3) := by decide +kernel
theorem dX7_copy_136 : decode cX7_copy 136 = .ok (.aload_n 0, 1) := by decide +kernel
theorem dX7_copy_137 : decode cX7_copy 137 = .ok (.getfield 64, 3) := by decide +kernel
theorem dX7_copy_140 : decode cX7_copy 140 = .ok (.iload 6, 2) := by decide +kernel
theorem dX7_copy_142 : decode cX7_copy 142 = .ok (.aload_n 0, 1) := by decide +kernel
theorem dX7_copy_143 : decode cX7_copy 143 = .ok (.getfield 61, 3) := by decide +kernel
theorem dX7_copy_146 : decode cX7_copy 146 = .ok (.bipush 40, 2) := by decide +kernel
theorem dX7_copy_148 : decode cX7_copy 148 = .ok (.iload_n 1, 1) := by decide +kernel
theorem dX7_copy_149 : decode cX7_copy 149 = .ok (.imul, 1) := by decide +kernel
theorem dX7_copy_150 : decode cX7_copy 150 = .ok (.iload_n 2, 1) := by decide +kernel
theorem dX7_copy_151 : decode cX7_copy 151 = .ok (.iadd, 1) := by decide +kernel
theorem dX7_copy_152 : decode cX7_copy 152 = .ok (.iload 6, 2) := by decide +kernel
theorem dX7_copy_154 : decode cX7_copy 154 = .ok (.iadd, 1) := by decide +kernel
theorem dX7_copy_155 : decode cX7_copy 155 = .ok (.iaload, 1) := by decide +kernel
theorem dX7_copy_156 : decode cX7_copy 156 = .ok (.iastore, 1) := by decide +kernel
theorem dX7_copy_157 : decode cX7_copy 157 = .ok (.iinc 6 1, 3) := by decide +kernel
theorem dX7_copy_160 : decode cX7_copy 160 = .ok (.goto (-31), 3) := by decide +kernel
theorem dX7_copy_163 : decode cX7_copy 163 = .ok (.iconst 0, 1) := by decide +kernel
theorem dX7_copy_164 : decode cX7_copy 164 = .ok (.istore 6, 2) := by decide +kernel
theorem dX7_copy_166 : decode cX7_copy 166 = .ok (.iload 6, 2) := by decide +kernel
theorem dX7_copy_168 : decode cX7_copy 168 = .ok (.iload 5, 2) := by decide +kernel
theorem dX7_copy_170 : decode cX7_copy 170 = .ok (.if_icmp .ge 31, 3) := by decide +kernel
theorem dX7_copy_173 : decode cX7_copy 173 = .ok (.aload_n 0, 1) := by decide +kernel
theorem dX7_copy_174 : decode cX7_copy 174 = .ok (.getfield 61, 3) := by decide +kernel
theorem dX7_copy_177 : decode cX7_copy 177 = .ok (.bipush 40, 2) := by decide +kernel
theorem dX7_copy_179 : decode cX7_copy 179 = .ok (.iload_n 3, 1) := by decide +kernel
theorem dX7_copy_180 : decode cX7_copy 180 = .ok (.imul, 1) := by decide +kernel
theorem dX7_copy_181 : decode cX7_copy 181 = .ok (.iload 4, 2) := by decide +kernel
theorem dX7_copy_183 : decode cX7_copy 183 = .ok (.iadd, 1) := by decide +kernel
theorem dX7_copy_184 : decode cX7_copy 184 = .ok (.iload 6, 2) := by decide +kernel
theorem dX7_copy_186 : decode cX7_copy 186 = .ok (.iadd, 1) := by decide +kernel
theorem dX7_copy_187 : decode cX7_copy 187 = .ok (.aload_n 0, 1) := by decide +kernel
theorem dX7_copy_188 : decode cX7_copy 188 = .ok (.getfield 64, 3) := by decide +kernel
theorem dX7_copy_191 : decode cX7_copy 191 = .ok (.iload 6, 2) := by decide +kernel
theorem dX7_copy_193 : decode cX7_copy 193 = .ok (.iaload, 1) := by decide +kernel
theorem dX7_copy_194 : decode cX7_copy 194 = .ok (.iastore, 1) := by decide +kernel
theorem dX7_copy_195 : decode cX7_copy 195 = .ok (.iinc 6 1, 3) := by decide +kernel
theorem dX7_copy_198 : decode cX7_copy 198 = .ok (.goto (-32), 3) := by decide +kernel
theorem dX7_copy_201 : decode cX7_copy 201 = .ok (.iload 5, 2) := by decide +kernel
theorem dX7_copy_203 : decode cX7_copy 203 = .ok (.ireturn, 1) := by decide +kernel
theorem dX7_load_0 : decode cX7_load 0 = .ok (.iload_n 1, 1) := by decide +kernel
theorem dX7_load_1 : decode cX7_load 1 = .ok (.invokestatic 305, 3) := by decide +kernel
theorem dX7_load_4 : decode cX7_load 4 = .ok (.ifCond .ne 10, 3) := by decide +kernel
theorem dX7_load_7 : decode cX7_load 7 = .ok (.aload_n 0, 1) := by decide +kernel
theorem dX7_load_8 : decode cX7_load 8 = .ok (.ldc 67, 2) := by decide +kernel
theorem dX7_load_10 : decode cX7_load 10 = .ok (.invokevirtual 87, 3) := by decide +kernel
theorem dX7_load_13 : decode cX7_load 13 = .ok (.ireturn, 1) := by decide +kernel
theorem dX7_load_14 : decode cX7_load 14 = .ok (.aload_n 0, 1) := by decide +kernel
theorem dX7_load_15 : decode cX7_load 15 = .ok (.getfield 55, 3) := by decide +kernel
theorem dX7_load_18 : decode cX7_load 18 = .ok (.iload_n 1, 1) := by decide +kernel
theorem dX7_load_19 : decode cX7_load 19 = .ok (.iaload, 1) := by decide +kernel
theorem dX7_load_20 : decode cX7_load 20 = .ok (.ifCond .ne 11, 3) := by decide +kernel
theorem dX7_load_23 : decode cX7_load 23 = .ok (.aload_n 0, 1) := by decide +kernel
theorem dX7_load_24 : decode cX7_load 24 = .ok (.ldc_w 303, 3) := by decide +kernel
theorem dX7_load_27 : decode cX7_load 27 = .ok (.invokevirtual 87, 3) := by decide +kernel
theorem dX7_load_30 : decode cX7_load 30 = .ok (.ireturn, 1) := by decide +kernel
theorem dX7_load_31 : decode cX7_load 31 = .ok (.iconst 0, 1) := by decide +kernel
theorem dX7_load_32 : decode cX7_load 32 = .ok (.istore_n 2, 1) := by decide +kernel
theorem dX7_load_33 : decode cX7_load 33 = .ok (.iload_n 2, 1) := by decide +kernel
theorem dX7_load_34 : decode cX7_load 34 = .ok (.aload_n 0, 1) := by decide +kernel
theorem dX7_load_35 : decode cX7_load 35 = .ok (.getfield 58, 3) := by decide +kernel
theorem dX7_load_38 : decode cX7_load 38 = .ok (.iload_n 1, 1) := by decide +kernel
theorem dX7_load_39 : decode cX7_load 39 = .ok (.iaload, 1) := by decide +kernel
theorem dX7_load_40 : decode cX7_load 40 = .ok (.if_icmp .ge 57, 3) := by decide +kernel
theorem dX7_load_43 : decode cX7_load 43 = .ok (.aload_n 0, 1) := by decide +kernel
theorem dX7_load_44 : decode cX7_load 44 = .ok (.iload_n 2, 1) := by decide +kernel
theorem dX7_load_45 : decode cX7_load 45 = .ok (.invokevirtual 124, 3) := by decide +kernel
theorem dX7_load_48 : decode cX7_load 48 = .ok (.ifCond .eq 49, 3) := by decide +kernel
theorem dX7_load_51 : decode cX7_load 51 = .ok (.aload_n 0, 1) := by decide +kernel
theorem dX7_load_52 : decode cX7_load 52 = .ok (.getfield 61, 3) := by decide +kernel
theorem dX7_load_55 : decode cX7_load 55 = .ok (.bipush 40, 2) := by decide +kernel
theorem dX7_load_57 : decode cX7_load 57 = .ok (.iload_n 1, 1) := by decide +kernel
theorem dX7_load_58 : decode cX7_load 58 = .ok (.imul, 1) := by decide +kernel
theorem dX7_load_59 : decode cX7_load 59 = .ok (.iload_n 2, 1) := by decide +kernel
theorem dX7_load_60 : decode cX7_load 60 = .ok (.iadd, 1) := by decide +kernel
theorem dX7_load_61 : decode cX7_load 61 = .ok (.iaload, 1) := by decide +kernel
theorem dX7_load_62 : decode cX7_load 62 = .ok (.iconst 0, 1) := by decide +kernel
theorem dX7_load_63 : decode cX7_load 63 = .ok (.iconst 1, 1) := by decide +kernel
theorem dX7_load_64 : decode cX7_load 64 = .ok (.invokestatic 72, 3) := by decide +kernel
theorem dX7_load_67 : decode cX7_load 67 = .ok (.ifCond .eq 30, 3) := by decide +kernel
theorem dX7_load_70 : decode cX7_load 70 = .ok (.aload_n 0, 1) := by decide +kernel
theorem dX7_load_71 : decode cX7_load 71 = .ok (.getfield 9, 3) := by decide +kernel
theorem dX7_load_74 : decode cX7_load 74 = .ok (.iload_n 2, 1) := by decide +kernel
theorem dX7_load_75 : decode cX7_load 75 = .ok (.iconst 4, 1) := by decide +kernel
theorem dX7_load_76 : decode cX7_load 76 = .ok (.invokestatic 80, 3) := by decide +kernel
theorem dX7_load_79 : decode cX7_load 79 = .ok (.aload_n 0, 1) := by decide +kernel
theorem dX7_load_80 : decode cX7_load 80 = .ok (.getfield 61, 3) := by decide +kernel
theorem dX7_load_83 : decode cX7_load 83 = .ok (.bipush 40, 2) := by decide +kernel
theorem dX7_load_85 : decode cX7_load 85 = .ok (.iload_n 1, 1) := by decide +kernel
theorem dX7_load_86 : decode cX7_load 86 = .ok (.imul, 1) := by decide +kernel
theorem dX7_load_87 : decode cX7_load 87 = .ok (.iload_n 2, 1) := by decide +kernel
theorem dX7_load_88 : decode cX7_load 88 = .ok (.iadd, 1) := by decide +kernel
theorem dX7_load_89 : decode cX7_load 89 = .ok (.iaload, 1) := by decide +kernel
theorem dX7_load_90 : decode cX7_load 90 = .ok (.iastore, 1) := by decide +kernel
theorem dX7_load_91 : decode cX7_load 91 = .ok (.iinc 2 1, 3) := by decide +kernel
theorem dX7_load_94 : decode cX7_load 94 = .ok (.goto (-61), 3) := by decide +kernel
theorem dX7_load_97 : decode cX7_load 97 = .ok (.iload_n 2, 1) := by decide +kernel
theorem dX7_load_98 : decode cX7_load 98 = .ok (.ireturn, 1) := by decide +kernel
theorem dX7_areAllSums_0 : decode cX7_areAllSums 0 = .ok (.iconst 1, 1) := by decide +kernel
theorem dX7_areAllSums_1 : decode cX7_areAllSums 1 = .ok (.istore_n 2, 1) := by decide +kernel
theorem dX7_areAllSums_2 : decode cX7_areAllSums 2 = .ok (.iconst 0, 1) := by decide +kernel
theorem dX7_areAllSums_3 : decode cX7_areAllSums 3 = .ok (.istore_n 3, 1) := by decide +kernel
theorem dX7_areAllSums_4 : decode cX7_areAllSums 4 = .ok (.iload_n 3, 1) := by decide +kernel
theorem dX7_areAllSums_5 : decode cX7_areAllSums 5 = .ok (.aload_n 0, 1) := by decide +kernel
theorem dX7_areAllSums_6 : decode cX7_areAllSums 6 = .ok (.getfield 58, 3) := by decide +kernel
theorem dX7_areAllSums_9 : decode cX7_areAllSums 9 = .ok (.iload_n 1, 1) := by decide +kernel
theorem dX7_areAllSums_10 : decode cX7_areAllSums 10 = .ok (.iaload, 1) := by decide +kernel
theorem dX7_areAllSums_11 : decode cX7_areAllSums 11 = .ok (.if_icmp .ge 58, 3) := by decide +kernel
theorem dX7_areAllSums_14 : decode cX7_areAllSums 14 = .ok (.iload_n 2, 1) := by decide +kernel
theorem dX7_areAllSums_15 : decode cX7_areAllSums 15 = .ok (.ifCond .eq 54, 3) := by decide +kernel
theorem dX7_areAllSums_18 : decode cX7_areAllSums 18 = .ok (.aload_n 0, 1) := by decide +kernel
theorem dX7_areAllSums_19 : decode cX7_areAllSums 19 = .ok (.getfield 61, 3) := by decide +kernel
theorem dX7_areAllSums_22 : decode cX7_areAllSums 22 = .ok (.bipush 40, 2) := by decide +kernel
theorem dX7_areAllSums_24 : decode cX7_areAllSums 24 = .ok (.iload_n 1, 1) := by decide +kernel
theorem dX7_areAllSums_25 : decode cX7_areAllSums 25 = .ok (.imul, 1) := by decide +kernel
theorem dX7_areAllSums_26 : decode cX7_areAllSums 26 = .ok (.iload_n 3, 1) := by decide +kernel
theorem dX7_areAllSums_27 : decode cX7_areAllSums 27 = .ok (.iadd, 1) := by decide +kernel
theorem dX7_areAllSums_28 : decode cX7_areAllSums 28 = .ok (.iaload, 1) := by decide +kernel
theorem dX7_areAllSums_29 : decode cX7_areAllSums 29 = .ok (.istore 4, 2) := by decide +kernel
theorem dX7_areAllSums_31 : decode cX7_areAllSums 31 = .ok (.iload 4, 2) := by decide +kernel
theorem dX7_areAllSums_33 : decode cX7_areAllSums 33 = .ok (.iconst 0, 1) := by decide +kernel
theorem dX7_areAllSums_34 : decode cX7_areAllSums 34 = .ok (.aload_n 0, 1) := by decide +kernel
theorem dX7_areAllSums_35 : decode cX7_areAllSums 35 = .ok (.getfield 22, 3) := by decide +kernel
theorem dX7_areAllSums_38 : decode cX7_areAllSums 38 = .ok (.arraylength, 1) := by decide +kernel
theorem dX7_areAllSums_39 : decode cX7_areAllSums 39 = .ok (.iconst 1, 1) := by decide +kernel
theorem dX7_areAllSums_40 : decode cX7_areAllSums 40 = .ok (.isub, 1) := by decide +kernel
theorem dX7_areAllSums_41 : decode cX7_areAllSums 41 = .ok (.invokestatic 72, 3) := by decide +kernel
theorem dX7_areAllSums_44 : decode cX7_areAllSums 44 = .ok (.ifCond .eq 17, 3) := by decide +kernel
theorem dX7_areAllSums_47 : decode cX7_areAllSums 47 = .ok (.aload_n 0, 1) := by decide +kernel
theorem dX7_areAllSums_48 : decode cX7_areAllSums 48 = .ok (.getfield 22, 3) := by decide +kernel
theorem dX7_areAllSums_51 : decode cX7_areAllSums 51 = .ok (.iload 4, 2) := by decide +kernel
theorem dX7_areAllSums_53 : decode cX7_areAllSums 53 = .ok (.baload, 1) := by decide +kernel
theorem dX7_areAllSums_54 : decode cX7_areAllSums 54 = .ok (.ifCond .eq 7, 3) := by decide +kernel
theorem dX7_areAllSums_57 : decode cX7_areAllSums 57 = .ok (.iconst 1, 1) := by decide +kernel
theorem dX7_areAllSums_58 : decode cX7_areAllSums 58 = .ok (.goto 4, 3) := by decide +kernel
theorem dX7_areAllSums_61 : decode cX7_areAllSums 61 = .ok (.iconst 0, 1) := by decide +kernel
theorem dX7_areAllSums_62 : decode cX7_areAllSums 62 = .ok (.istore_n 2, 1) := by decide +kernel
theorem dX7_areAllSums_63 : decode cX7_areAllSums 63 = .ok (.iinc 3 1, 3) := by decide +kernel
theorem dX7_areAllSums_66 : decode cX7_areAllSums 66 = .ok (.goto (-62), 3) := by decide +kernel
theorem dX7_areAllSums_69 : decode cX7_areAllSums 69 = .ok (.iload_n 2, 1) := by decide +kernel
theorem dX7_areAllSums_70 : decode cX7_areAllSums 70 = .ok (.ireturn, 1) := by decide +kernel
theorem dX7_strike_0 : decode cX7_strike 0 = .ok (.iload_n 1, 1) := by decide +kernel
theorem dX7_strike_1 : decode cX7_strike 1 = .ok (.invokestatic 305, 3) := by decide +kernel
theorem dX7_strike_4 : decode cX7_strike 4 = .ok (.ifCond .ne 10, 3) := by decide +kernel
theorem dX7_strike_7 : decode cX7_strike 7 = .ok (.aload_n 0, 1) := by decide +kernel
theorem dX7_strike_8 : decode cX7_strike 8 = .ok (.ldc 67, 2) := by decide +kernel
theorem dX7_strike_10 : decode cX7_strike 10 = .ok (.invokevirtual 87, 3) := by decide +kernel
theorem dX7_strike_13 : decode cX7_strike 13 = .ok (.ireturn, 1) := by decide +kernel
theorem dX7_strike_14 : decode cX7_strike 14 = .ok (.aload_n 0, 1) := by decide +kernel
theorem dX7_strike_15 : decode cX7_strike 15 = .ok (.getfield 55, 3) := by decide +kernel
theorem dX7_strike_18 : decode cX7_strike 18 = .ok (.iload_n 1, 1) := by decide +kernel
theorem dX7_strike_19 : decode cX7_strike 19 = .ok (.iaload, 1) := by decide +kernel
theorem dX7_strike_20 : decode cX7_strike 20 = .ok (.ifCond .ne 11, 3) := by decide +kernel
theorem dX7_strike_23 : decode cX7_strike 23 = .ok (.aload_n 0, 1) := by decide +kernel
theorem dX7_strike_24 : decode cX7_strike 24 = .ok (.ldc_w 303, 3) := by decide +kernel
theorem dX7_strike_27 : decode cX7_strike 27 = .ok (.invokevirtual 87, 3) := by decide +kernel
theorem dX7_strike_30 : decode cX7_strike 30 = .ok (.ireturn, 1) := by decide +kernel
theorem dX7_strike_31 : decode cX7_strike 31 = .ok (.iload_n 2, 1) := by decide +kernel
theorem dX7_strike_32 : decode cX7_strike 32 = .ok (.invokestatic 76, 3) := by decide +kernel
theorem dX7_strike_35 : decode cX7_strike 35 = .ok (.ifCond .ne 10, 3) := by decide +kernel
theorem dX7_strike_38 : decode cX7_strike 38 = .ok (.aload_n 0, 1) := by decide +kernel
theorem dX7_strike_39 : decode cX7_strike 39 = .ok (.ldc 67, 2) := by decide +kernel
theorem dX7_strike_41 : decode cX7_strike 41 = .ok (.invokevirtual 87, 3) := by decide +kernel
theorem dX7_strike_44 : decode cX7_strike 44 = .ok (.ireturn, 1) := by decide +kernel
theorem dX7_strike_45 : decode cX7_strike 45 = .ok (.aload_n 0, 1) := by decide +kernel
theorem dX7_strike_46 : decode cX7_strike 46 = .ok (.iload_n 2, 1) := by decide +kernel
theorem dX7_strike_47 : decode cX7_strike 47 = .ok (.invokevirtual 139, 3) := by decide +kernel
theorem dX7_strike_50 : decode cX7_strike 50 = .ok (.istore_n 3, 1) := by decide +kernel
theorem dX7_strike_51 : decode cX7_strike 51 = .ok (.iconst (-1), 1) := by decide +kernel
theorem dX7_strike_52 : decode cX7_strike 52 = .ok (.istore 4, 2) := by decide +kernel
theorem dX7_strike_54 : decode cX7_strike 54 = .ok (.iconst 0, 1) := by decide +kernel
theorem dX7_strike_55 : decode cX7_strike 55 = .ok (.istore 5, 2) := by decide +kernel
theorem dX7_strike_57 : decode cX7_strike 57 = .ok (.iload 5, 2) := by decide +kernel
theorem dX7_strike_59 : decode cX7_strike 59 = .ok (.iload_n 3, 1) := by decide +kernel
theorem dX7_strike_60 : decode cX7_strike 60 = .ok (.if_icmp .gt 70, 3) := by decide +kernel
theorem dX7_strike_63 : decode cX7_strike 63 = .ok (.iload 5, 2) := by decide +kernel
theorem dX7_strike_65 : decode cX7_strike 65 = .ok (.iload_n 3, 1) := by decide +kernel
theorem dX7_strike_66 : decode cX7_strike 66 = .ok (.iconst (-1), 1) := by decide +kernel
theorem dX7_strike_67 : decode cX7_strike 67 = .ok (.ixor, 1) := by decide +kernel
theorem dX7_strike_68 : decode cX7_strike 68 = .ok (.iand, 1) := by decide +kernel
theorem dX7_strike_69 : decode cX7_strike 69 = .ok (.ifCond .ne 55, 3) := by decide +kernel
theorem dX7_strike_72 : decode cX7_strike 72 = .ok (.iload 4, 2) := by decide +kernel
theorem dX7_strike_74 : decode cX7_strike 74 = .ok (.ifCond .lt 16, 3) := by decide +kernel
theorem dX7_strike_77 : decode cX7_strike 77 = .ok (.iload 5, 2) := by decide +kernel
theorem dX7_strike_79 : decode cX7_strike 79 = .ok (.invokestatic 186, 3) := by decide +kernel
theorem dX7_strike_82 : decode cX7_strike 82 = .ok (.iload 4, 2) := by decide +kernel
theorem dX7_strike_84 : decode cX7_strike 84 = .ok (.invokestatic 186, 3) := by decide +kernel
theorem dX7_strike_87 : decode cX7_strike 87 = .ok (.if_icmp .ge 37, 3) := by decide +kernel
theorem dX7_strike_90 : decode cX7_strike 90 = .ok (.aload_n 0, 1) := by decide +kernel
theorem dX7_strike_91 : decode cX7_strike 91 = .ok (.iload 5, 2) := by decide +kernel
theorem dX7_strike_93 : decode cX7_strike 93 = .ok (.invokevirtual 214, 3) := by decide +kernel
theorem dX7_strike_96 : decode cX7_strike 96 = .ok (.aload_n 0, 1) := by decide +kernel
theorem dX7_strike_97 : decode cX7_strike 97 = .ok (.iload_n 2, 1) := by decide +kernel
theorem dX7_strike_98 : decode cX7_strike 98 = .ok (.invokevirtual 176, 3) := by decide +kernel
theorem dX7_strike_101 : decode cX7_strike 101 = .ok (.aload_n 0, 1) := by decide +kernel
theorem dX7_strike_102 : decode cX7_strike 102 = .ok (.iload_n 1, 1) := by decide +kernel
theorem dX7_strike_103 : decode cX7_strike 103 = .ok (.invokevirtual 312, 3) := by decide +kernel
theorem dX7_strike_106 : decode cX7_strike 106 = .ok (.ifCond .eq 8, 3) := by decide +kernel
theorem dX7_strike_109 : decode cX7_strike 109 = .ok (.iload 5, 2) := by decide +kernel
theorem dX7_strike_111 : decode cX7_strike 111 = .ok (.goto 5, 3) := by decide +kernel
theorem dX7_strike_114 : decode cX7_strike 114 = .ok (.iload 4, 2) := by decide +kernel
theorem dX7_strike_116 : decode cX7_strike 116 = .ok (.istore 4, 2) := by decide +kernel
theorem dX7_strike_118 : decode cX7_strike 118 = .ok (.aload_n 0, 1) := by decide +kernel
theorem dX7_strike_119 : decode cX7_strike 119 = .ok (.iload 5, 2) := by decide +kernel
theorem dX7_strike_121 : decode cX7_strike 121 = .ok (.invokevirtual 214, 3) := by decide +kernel
theorem dX7_strike_124 : decode cX7_strike 124 = .ok (.iinc 5 1, 3) := by decide +kernel
theorem dX7_strike_127 : decode cX7_strike 127 = .ok (.goto (-70), 3) := by decide +kernel
theorem dX7_strike_130 : decode cX7_strike 130 = .ok (.iload 4, 2) := by decide +kernel
theorem dX7_strike_132 : decode cX7_strike 132 = .ok (.ifCond .ge 12, 3) := by decide +kernel
theorem dX7_strike_135 : decode cX7_strike 135 = .ok (.aload_n 0, 1) := by decide +kernel
theorem dX7_strike_136 : decode cX7_strike 136 = .ok (.ldc 172, 2) := by decide +kernel
theorem dX7_strike_138 : decode cX7_strike 138 = .ok (.invokevirtual 87, 3) := by decide +kernel
theorem dX7_strike_141 : decode cX7_strike 141 = .ok (.goto 5, 3) := by decide +kernel
theorem dX7_strike_144 : decode cX7_strike 144 = .ok (.iload 4, 2) := by decide +kernel
theorem dX7_strike_146 : decode cX7_strike 146 = .ok (.ireturn, 1) := by decide +kernel
theorem dX7_judge_0 : decode cX7_judge 0 = .ok (.iload_n 1, 1) := by decide +kernel
theorem dX7_judge_1 : decode cX7_judge 1 = .ok (.invokestatic 305, 3) := by decide +kernel
theorem dX7_judge_4 : decode cX7_judge 4 = .ok (.ifCond .ne 10, 3) := by decide +kernel
theorem dX7_judge_7 : decode cX7_judge 7 = .ok (.aload_n 0, 1) := by decide +kernel
theorem dX7_judge_8 : decode cX7_judge 8 = .ok (.ldc 67, 2) := by decide +kernel
theorem dX7_judge_10 : decode cX7_judge 10 = .ok (.invokevirtual 87, 3) := by decide +kernel
theorem dX7_judge_13 : decode cX7_judge 13 = .ok (.ireturn, 1) := by decide +kernel
theorem dX7_judge_14 : decode cX7_judge 14 = .ok (.aload_n 0, 1) := by decide +kernel
theorem dX7_judge_15 : decode cX7_judge 15 = .ok (.getfield 55, 3) := by decide +kernel
theorem dX7_judge_18 : decode cX7_judge 18 = .ok (.iload_n 1, 1) := by decide +kernel
theorem dX7_judge_19 : decode cX7_judge 19 = .ok (.iaload, 1) := by decide +kernel
theorem dX7_judge_20 : decode cX7_judge 20 = .ok (.ifCond .ne 11, 3) := by decide +kernel
theorem dX7_judge_23 : decode cX7_judge 23 = .ok (.aload_n 0, 1) := by decide +kernel
theorem dX7_judge_24 : decode cX7_judge 24 = .ok (.ldc_w 303, 3) := by decide +kernel
theorem dX7_judge_27 : decode cX7_judge 27 = .ok (.invokevirtual 87, 3) := by decide +kernel
theorem dX7_judge_30 : decode cX7_judge 30 = .ok (.ireturn, 1) := by decide +kernel
theorem dX7_judge_31 : decode cX7_judge 31 = .ok (.iload_n 2, 1) := by decide +kernel
theorem dX7_judge_32 : decode cX7_judge 32 = .ok (.iload_n 3, 1) := by decide +kernel
theorem dX7_judge_33 : decode cX7_judge 33 = .ok (.invokestatic 159, 3) := by decide +kernel
theorem dX7_judge_36 : decode cX7_judge 36 = .ok (.ifCond .ne 10, 3) := by decide +kernel
theorem dX7_judge_39 : decode cX7_judge 39 = .ok (.aload_n 0, 1) := by decide +kernel
theorem dX7_judge_40 : decode cX7_judge 40 = .ok (.ldc 67, 2) := by decide +kernel
theorem dX7_judge_42 : decode cX7_judge 42 = .ok (.invokevirtual 87, 3) := by decide +kernel
theorem dX7_judge_45 : decode cX7_judge 45 = .ok (.ireturn, 1) := by decide +kernel
theorem dX7_judge_46 : decode cX7_judge 46 = .ok (.aload_n 0, 1) := by decide +kernel
theorem dX7_judge_47 : decode cX7_judge 47 = .ok (.getfield 9, 3) := by decide +kernel
theorem dX7_judge_50 : decode cX7_judge 50 = .ok (.aload_n 0, 1) := by decide +kernel
theorem dX7_judge_51 : decode cX7_judge 51 = .ok (.getfield 16, 3) := by decide +kernel
theorem dX7_judge_54 : decode cX7_judge 54 = .ok (.invokestatic 68, 3) := by decide +kernel
theorem dX7_judge_57 : decode cX7_judge 57 = .ok (.iconst 0, 1) := by decide +kernel
theorem dX7_judge_58 : decode cX7_judge 58 = .ok (.istore 4, 2) := by decide +kernel
theorem dX7_judge_60 : decode cX7_judge 60 = .ok (.iload 4, 2) := by decide +kernel
theorem dX7_judge_62 : decode cX7_judge 62 = .ok (.aload_n 0, 1) := by decide +kernel
theorem dX7_judge_63 : decode cX7_judge 63 = .ok (.getfield 58, 3) := by decide +kernel
theorem dX7_judge_66 : decode cX7_judge 66 = .ok (.iload_n 1, 1) := by decide +kernel
theorem dX7_judge_67 : decode cX7_judge 67 = .ok (.iaload, 1) := by decide +kernel
theorem dX7_judge_68 : decode cX7_judge 68 = .ok (.if_icmp .ge 36, 3) := by decide +kernel
theorem dX7_judge_71 : decode cX7_judge 71 = .ok (.aload_n 0, 1) := by decide +kernel
theorem dX7_judge_72 : decode cX7_judge 72 = .ok (.iload_n 2, 1) := by decide +kernel
theorem dX7_judge_73 : decode cX7_judge 73 = .ok (.iload_n 3, 1) := by decide +kernel
theorem dX7_judge_74 : decode cX7_judge 74 = .ok (.aload_n 0, 1) := by decide +kernel
theorem dX7_judge_75 : decode cX7_judge 75 = .ok (.getfield 61, 3) := by decide +kernel
theorem dX7_judge_78 : decode cX7_judge 78 = .ok (.bipush 40, 2) := by decide +kernel
theorem dX7_judge_80 : decode cX7_judge 80 = .ok (.iload_n 1, 1) := by decide +kernel
theorem dX7_judge_81 : decode cX7_judge 81 = .ok (.imul, 1) := by decide +kernel
theorem dX7_judge_82 : decode cX7_judge 82 = .ok (.iload 4, 2) := by decide +kernel
theorem dX7_judge_84 : decode cX7_judge 84 = .ok (.iadd, 1) := by decide +kernel
theorem dX7_judge_85 : decode cX7_judge 85 = .ok (.iaload, 1) := by decide +kernel
theorem dX7_judge_86 : decode cX7_judge 86 = .ok (.invokevirtual 198, 3) := by decide +kernel
theorem dX7_judge_89 : decode cX7_judge 89 = .ok (.ifCond .ne 15, 3) := by decide +kernel
theorem dX7_judge_92 : decode cX7_judge 92 = .ok (.aload_n 0, 1) := by decide +kernel
theorem dX7_judge_93 : decode cX7_judge 93 = .ok (.iload_n 2, 1) := by decide +kernel
theorem dX7_judge_94 : decode cX7_judge 94 = .ok (.iload_n 3, 1) := by decide +kernel
theorem dX7_judge_95 : decode cX7_judge 95 = .ok (.invokevirtual 202, 3) := by decide +kernel
theorem dX7_judge_98 : decode cX7_judge 98 = .ok (.iinc 4 1, 3) := by decide +kernel
theorem dX7_judge_101 : decode cX7_judge 101 = .ok (.goto (-41), 3) := by decide +kernel
theorem dX7_judge_104 : decode cX7_judge 104 = .ok (.aload_n 0, 1) := by decide +kernel
theorem dX7_judge_105 : decode cX7_judge 105 = .ok (.iload 4, 2) := by decide +kernel
theorem dX7_judge_107 : decode cX7_judge 107 = .ok (.aload_n 0, 1) := by decide +kernel
theorem dX7_judge_108 : decode cX7_judge 108 = .ok (.getfield 58, 3) := by decide +kernel
theorem dX7_judge_111 : decode cX7_judge 111 = .ok (.iload_n 1, 1) := by decide +kernel
theorem dX7_judge_112 : decode cX7_judge 112 = .ok (.iaload, 1) := by decide +kernel
theorem dX7_judge_113 : decode cX7_judge 113 = .ok (.if_icmp .ne 7, 3) := by decide +kernel
theorem dX7_judge_116 : decode cX7_judge 116 = .ok (.iconst 0, 1) := by decide +kernel
theorem dX7_judge_117 : decode cX7_judge 117 = .ok (.goto 7, 3) := by decide +kernel
theorem dX7_judge_120 : decode cX7_judge 120 = .ok (.iconst 1, 1) := by decide +kernel
theorem dX7_judge_121 : decode cX7_judge 121 = .ok (.iload 4, 2) := by decide +kernel
theorem dX7_judge_123 : decode cX7_judge 123 = .ok (.iadd, 1) := by decide +kernel
theorem dX7_judge_124 : decode cX7_judge 124 = .ok (.invokevirtual 211, 3) := by decide +kernel
theorem dX7_judge_127 : decode cX7_judge 127 = .ok (.ireturn, 1) := by decide +kernel
theorem dX7_image_0 : decode cX7_image 0 = .ok (.aload_n 0, 1) := by decide +kernel
theorem dX7_image_1 : decode cX7_image 1 = .ok (.getfield 9, 3) := by decide +kernel
theorem dX7_image_4 : decode cX7_image 4 = .ok (.aload_n 0, 1) := by decide +kernel
theorem dX7_image_5 : decode cX7_image 5 = .ok (.getfield 13, 3) := by decide +kernel
theorem dX7_image_8 : decode cX7_image 8 = .ok (.invokestatic 68, 3) := by decide +kernel
theorem dX7_image_11 : decode cX7_image 11 = .ok (.aload_n 0, 1) := by decide +kernel
theorem dX7_image_12 : decode cX7_image 12 = .ok (.iconst 1, 1) := by decide +kernel
theorem dX7_image_13 : decode cX7_image 13 = .ok (.putfield 315, 3) := by decide +kernel
theorem dX7_image_16 : decode cX7_image 16 = .ok (.iconst 1, 1) := by decide +kernel
theorem dX7_image_17 : decode cX7_image 17 = .ok (.ireturn, 1) := by decide +kernel
theorem dX7_undo_0 : decode cX7_undo 0 = .ok (.aload_n 0, 1) := by decide +kernel
theorem dX7_undo_1 : decode cX7_undo 1 = .ok (.getfield 315, 3) := by decide +kernel
theorem dX7_undo_4 : decode cX7_undo 4 = .ok (.ifCond .ne 10, 3) := by decide +kernel
theorem dX7_undo_7 : decode cX7_undo 7 = .ok (.aload_n 0, 1) := by decide +kernel
theorem dX7_undo_8 : decode cX7_undo 8 = .ok (.ldc 172, 2) := by decide +kernel
theorem dX7_undo_10 : decode cX7_undo 10 = .ok (.invokevirtual 87, 3) := by decide +kernel
theorem dX7_undo_13 : decode cX7_undo 13 = .ok (.ireturn, 1) := by decide +kernel
theorem dX7_undo_14 : decode cX7_undo 14 = .ok (.aload_n 0, 1) := by decide +kernel
theorem dX7_undo_15 : decode cX7_undo 15 = .ok (.getfield 13, 3) := by decide +kernel
theorem dX7_undo_18 : decode cX7_undo 18 = .ok (.aload_n 0, 1) := by decide +kernel
theorem dX7_undo_19 : decode cX7_undo 19 = .ok (.getfield 9, 3) := by decide +kernel
theorem dX7_undo_22 : decode cX7_undo 22 = .ok (.invokestatic 68, 3) := by decide +kernel
theorem dX7_undo_25 : decode cX7_undo 25 = .ok (.aload_n 0, 1) := by decide +kernel
theorem dX7_undo_26 : decode cX7_undo 26 = .ok (.getfield 9, 3) := by decide +kernel
theorem dX7_undo_29 : decode cX7_undo 29 = .ok (.iconst 0, 1) := by decide +kernel
theorem dX7_undo_30 : decode cX7_undo 30 = .ok (.iaload, 1) := by decide +kernel
theorem dX7_undo_31 : decode cX7_undo 31 = .ok (.ireturn, 1) := by decide +kernel
theorem dX7_tear_0 : decode cX7_tear 0 = .ok (.aload_n 0, 1) := by decide +kernel
theorem dX7_tear_1 : decode cX7_tear 1 = .ok (.getfield 315, 3) := by decide +kernel
theorem dX7_tear_4 : decode cX7_tear 4 = .ok (.ifCond .eq 7, 3) := by decide +kernel
theorem dX7_tear_7 : decode cX7_tear 7 = .ok (.iconst 1, 1) := by decide +kernel
theorem dX7_tear_8 : decode cX7_tear 8 = .ok (.goto 4, 3) := by decide +kernel
theorem dX7_tear_11 : decode cX7_tear 11 = .ok (.iconst 0, 1) := by decide +kernel
theorem dX7_tear_12 : decode cX7_tear 12 = .ok (.istore_n 1, 1) := by decide +kernel
theorem dX7_tear_13 : decode cX7_tear 13 = .ok (.aload_n 0, 1) := by decide +kernel
theorem dX7_tear_14 : decode cX7_tear 14 = .ok (.iconst 0, 1) := by decide +kernel
theorem dX7_tear_15 : decode cX7_tear 15 = .ok (.putfield 315, 3) := by decide +kernel
theorem dX7_tear_18 : decode cX7_tear 18 = .ok (.iload_n 1, 1) := by decide +kernel
theorem dX7_tear_19 : decode cX7_tear 19 = .ok (.ireturn, 1) := by decide +kernel
theorem dX7_count_0 : decode cX7_count 0 = .ok (.iconst 0, 1) := by decide +kernel
theorem dX7_count_1 : decode cX7_count 1 = .ok (.istore_n 2, 1) := by decide +kernel
theorem dX7_count_2 : decode cX7_count 2 = .ok (.iload_n 1, 1) := by decide +kernel
theorem dX7_count_3 : decode cX7_count 3 = .ok (.tableswitch 168 0 7 #[45, 52, 59, 74, 103, 121, 126, 133], 45) := by decide +kernel
theorem dX7_count_48 : decode cX7_count 48 = .ok (.aload_n 0, 1) := by decide +kernel
theorem dX7_count_49 : decode cX7_count 49 = .ok (.getfield 9, 3) := by decide +kernel
theorem dX7_count_52 : decode cX7_count 52 = .ok (.iconst 0, 1) := by decide +kernel
theorem dX7_count_53 : decode cX7_count 53 = .ok (.iaload, 1) := by decide +kernel
theorem dX7_count_54 : decode cX7_count 54 = .ok (.ireturn, 1) := by decide +kernel
theorem dX7_count_55 : decode cX7_count 55 = .ok (.aload_n 0, 1) := by decide +kernel
theorem dX7_count_56 : decode cX7_count 56 = .ok (.getfield 9, 3) := by decide +kernel
theorem dX7_count_59 : decode cX7_count 59 = .ok (.iconst 1, 1) := by decide +kernel
theorem dX7_count_60 : decode cX7_count 60 = .ok (.iaload, 1) := by decide +kernel
theorem dX7_count_61 : decode cX7_count 61 = .ok (.ireturn, 1) := by decide +kernel
theorem dX7_count_62 : decode cX7_count 62 = .ok (.aload_n 0, 1) := by decide +kernel
theorem dX7_count_63 : decode cX7_count 63 = .ok (.iconst 1, 1) := by decide +kernel
theorem dX7_count_64 : decode cX7_count 64 = .ok (.aload_n 0, 1) := by decide +kernel
theorem dX7_count_65 : decode cX7_count 65 = .ok (.getfield 9, 3) := by decide +kernel
theorem dX7_count_68 : decode cX7_count 68 = .ok (.iconst 1, 1) := by decide +kernel
theorem dX7_count_69 : decode cX7_count 69 = .ok (.iaload, 1) := by decide +kernel
theorem dX7_count_70 : decode cX7_count 70 = .ok (.ishl, 1) := by decide +kernel
theorem dX7_count_71 : decode cX7_count 71 = .ok (.iconst 1, 1) := by decide +kernel
theorem dX7_count_72 : decode cX7_count 72 = .ok (.isub, 1) := by decide +kernel
theorem dX7_count_73 : decode cX7_count 73 = .ok (.invokevirtual 142, 3) := by decide +kernel
theorem dX7_count_76 : decode cX7_count 76 = .ok (.ireturn, 1) := by decide +kernel
theorem dX7_count_77 : decode cX7_count 77 = .ok (.iconst 0, 1) := by decide +kernel
theorem dX7_count_78 : decode cX7_count 78 = .ok (.istore_n 3, 1) := by decide +kernel
theorem dX7_count_79 : decode cX7_count 79 = .ok (.iload_n 3, 1) := by decide +kernel
theorem dX7_count_80 : decode cX7_count 80 = .ok (.aload_n 0, 1) := by decide +kernel
theorem dX7_count_81 : decode cX7_count 81 = .ok (.getfield 9, 3) := by decide +kernel
theorem dX7_count_84 : decode cX7_count 84 = .ok (.iconst 1, 1) := by decide +kernel
theorem dX7_count_85 : decode cX7_count 85 = .ok (.iaload, 1) := by decide +kernel
theorem dX7_count_86 : decode cX7_count 86 = .ok (.if_icmp .ge 18, 3) := by decide +kernel
theorem dX7_count_89 : decode cX7_count 89 = .ok (.iload_n 2, 1) := by decide +kernel
theorem dX7_count_90 : decode cX7_count 90 = .ok (.aload_n 0, 1) := by decide +kernel
theorem dX7_count_91 : decode cX7_count 91 = .ok (.iload_n 3, 1) := by decide +kernel
theorem dX7_count_92 : decode cX7_count 92 = .ok (.iconst 5, 1) := by decide +kernel
theorem dX7_count_93 : decode cX7_count 93 = .ok (.invokevirtual 99, 3) := by decide +kernel
theorem dX7_count_96 : decode cX7_count 96 = .ok (.iadd, 1) := by decide +kernel
theorem dX7_count_97 : decode cX7_count 97 = .ok (.istore_n 2, 1) := by decide +kernel
theorem dX7_count_98 : decode cX7_count 98 = .ok (.iinc 3 1, 3) := by decide +kernel
theorem dX7_count_101 : decode cX7_count 101 = .ok (.goto (-22), 3) := by decide +kernel
theorem dX7_count_104 : decode cX7_count 104 = .ok (.iload_n 2, 1) := by decide +kernel
theorem dX7_count_105 : decode cX7_count 105 = .ok (.ireturn, 1) := by decide +kernel
theorem dX7_count_106 : decode cX7_count 106 = .ok (.iconst 1, 1) := by decide +kernel
theorem dX7_count_107 : decode cX7_count 107 = .ok (.aload_n 0, 1) := by decide +kernel
theorem dX7_count_108 : decode cX7_count 108 = .ok (.getfield 9, 3) := by decide +kernel
theorem dX7_count_111 : decode cX7_count 111 = .ok (.iconst 1, 1) := by decide +kernel
theorem dX7_count_112 : decode cX7_count 112 = .ok (.iaload, 1) := by decide +kernel
theorem dX7_count_113 : decode cX7_count 113 = .ok (.ishl, 1) := by decide +kernel
theorem dX7_count_114 : decode cX7_count 114 = .ok (.iconst 1, 1) := by decide +kernel
theorem dX7_count_115 : decode cX7_count 115 = .ok (.isub, 1) := by decide +kernel
theorem dX7_count_116 : decode cX7_count 116 = .ok (.aload_n 0, 1) := by decide +kernel
theorem dX7_count_117 : decode cX7_count 117 = .ok (.invokevirtual 145, 3) := by decide +kernel
theorem dX7_count_120 : decode cX7_count 120 = .ok (.iconst (-1), 1) := by decide +kernel
theorem dX7_count_121 : decode cX7_count 121 = .ok (.ixor, 1) := by decide +kernel
theorem dX7_count_122 : decode cX7_count 122 = .ok (.iand, 1) := by decide +kernel
theorem dX7_count_123 : decode cX7_count 123 = .ok (.ireturn, 1) := by decide +kernel
theorem dX7_count_124 : decode cX7_count 124 = .ok (.aload_n 0, 1) := by decide +kernel
theorem dX7_count_125 : decode cX7_count 125 = .ok (.getfield 227, 3) := by decide +kernel
theorem dX7_count_128 : decode cX7_count 128 = .ok (.ireturn, 1) := by decide +kernel
theorem dX7_count_129 : decode cX7_count 129 = .ok (.aload_n 0, 1) := by decide +kernel
theorem dX7_count_130 : decode cX7_count 130 = .ok (.getfield 9, 3) := by decide +kernel
theorem dX7_count_133 : decode cX7_count 133 = .ok (.iconst 2, 1) := by decide +kernel
theorem dX7_count_134 : decode cX7_count 134 = .ok (.iaload, 1) := by decide +kernel
theorem dX7_count_135 : decode cX7_count 135 = .ok (.ireturn, 1) := by decide +kernel
theorem dX7_count_136 : decode cX7_count 136 = .ok (.iconst 0, 1) := by decide +kernel
theorem dX7_count_137 : decode cX7_count 137 = .ok (.istore_n 3, 1) := by decide +kernel
theorem dX7_count_138 : decode cX7_count 138 = .ok (.iload_n 3, 1) := by decide +kernel
theorem dX7_count_139 : decode cX7_count 139 = .ok (.bipush 10, 2) := by decide +kernel
theorem dX7_count_141 : decode cX7_count 141 = .ok (.if_icmp .ge 28, 3) := by decide +kernel
theorem dX7_count_144 : decode cX7_count 144 = .ok (.iload_n 2, 1) := by decide +kernel
theorem dX7_count_145 : decode cX7_count 145 = .ok (.aload_n 0, 1) := by decide +kernel
theorem dX7_count_146 : decode cX7_count 146 = .ok (.getfield 9, 3) := by decide +kernel
theorem dX7_count_149 : decode cX7_count 149 = .ok (.iconst 3, 1) := by decide +kernel
theorem dX7_count_150 : decode cX7_count 150 = .ok (.iload_n 3, 1) := by decide +kernel
theorem dX7_count_151 : decode cX7_count 151 = .ok (.iadd, 1) := by decide +kernel
theorem dX7_count_152 : decode cX7_count 152 = .ok (.iaload, 1) := by decide +kernel
theorem dX7_count_153 : decode cX7_count 153 = .ok (.ifCond .ge 7, 3) := by decide +kernel
theorem dX7_count_156 : decode cX7_count 156 = .ok (.iconst 0, 1) := by decide +kernel
theorem dX7_count_157 : decode cX7_count 157 = .ok (.goto 4, 3) := by decide +kernel
theorem dX7_count_160 : decode cX7_count 160 = .ok (.iconst 1, 1) := by decide +kernel
theorem dX7_count_161 : decode cX7_count 161 = .ok (.iadd, 1) := by decide +kernel
theorem dX7_count_162 : decode cX7_count 162 = .ok (.istore_n 2, 1) := by decide +kernel
theorem dX7_count_163 : decode cX7_count 163 = .ok (.iinc 3 1, 3) := by decide +kernel
theorem dX7_count_166 : decode cX7_count 166 = .ok (.goto (-28), 3) := by decide +kernel
theorem dX7_count_169 : decode cX7_count 169 = .ok (.iload_n 2, 1) := by decide +kernel
theorem dX7_count_170 : decode cX7_count 170 = .ok (.ireturn, 1) := by decide +kernel
theorem dX7_count_171 : decode cX7_count 171 = .ok (.aload_n 0, 1) := by decide +kernel
theorem dX7_count_172 : decode cX7_count 172 = .ok (.ldc 67, 2) := by decide +kernel
theorem dX7_count_174 : decode cX7_count 174 = .ok (.invokevirtual 87, 3) := by decide +kernel
theorem dX7_count_177 : decode cX7_count 177 = .ok (.ireturn, 1) := by decide +kernel
theorem dX7_status_0 : decode cX7_status 0 = .ok (.iload_n 1, 1) := by decide +kernel
theorem dX7_status_1 : decode cX7_status 1 = .ok (.iconst (-1), 1) := by decide +kernel
theorem dX7_status_2 : decode cX7_status 2 = .ok (.bipush 6, 2) := by decide +kernel
theorem dX7_status_4 : decode cX7_status 4 = .ok (.invokestatic 72, 3) := by decide +kernel
theorem dX7_status_7 : decode cX7_status 7 = .ok (.ifCond .eq 14, 3) := by decide +kernel
theorem dX7_status_10 : decode cX7_status 10 = .ok (.aload_n 0, 1) := by decide +kernel
theorem dX7_status_11 : decode cX7_status 11 = .ok (.getfield 19, 3) := by decide +kernel
theorem dX7_status_14 : decode cX7_status 14 = .ok (.iload_n 1, 1) := by decide +kernel
theorem dX7_status_15 : decode cX7_status 15 = .ok (.iconst 1, 1) := by decide +kernel
theorem dX7_status_16 : decode cX7_status 16 = .ok (.iadd, 1) := by decide +kernel
theorem dX7_status_17 : decode cX7_status 17 = .ok (.iaload, 1) := by decide +kernel
theorem dX7_status_18 : decode cX7_status 18 = .ok (.goto 9, 3) := by decide +kernel
theorem dX7_status_21 : decode cX7_status 21 = .ok (.aload_n 0, 1) := by decide +kernel
theorem dX7_status_22 : decode cX7_status 22 = .ok (.ldc 67, 2) := by decide +kernel
theorem dX7_status_24 : decode cX7_status 24 = .ok (.invokevirtual 87, 3) := by decide +kernel
theorem dX7_status_27 : decode cX7_status 27 = .ok (.ireturn, 1) := by decide +kernel
theorem dJ6_bitCount_0f7a4_0 : decode cJ6_bitCount_0f7a4 0 = .ok (.iload_n 0, 1) := by decide +kernel
theorem dJ6_bitCount_0f7a4_1 : decode cJ6_bitCount_0f7a4 1 = .ok (.iload_n 0, 1) := by decide +kernel
theorem dJ6_bitCount_0f7a4_2 : decode cJ6_bitCount_0f7a4 2 = .ok (.iconst 1, 1) := by decide +kernel
theorem dJ6_bitCount_0f7a4_3 : decode cJ6_bitCount_0f7a4 3 = .ok (.iushr, 1) := by decide +kernel
theorem dJ6_bitCount_0f7a4_4 : decode cJ6_bitCount_0f7a4 4 = .ok (.ldc_w 265, 3) := by decide +kernel
theorem dJ6_bitCount_0f7a4_7 : decode cJ6_bitCount_0f7a4 7 = .ok (.iand, 1) := by decide +kernel
theorem dJ6_bitCount_0f7a4_8 : decode cJ6_bitCount_0f7a4 8 = .ok (.isub, 1) := by decide +kernel
theorem dJ6_bitCount_0f7a4_9 : decode cJ6_bitCount_0f7a4 9 = .ok (.istore_n 0, 1) := by decide +kernel
theorem dJ6_bitCount_0f7a4_10 : decode cJ6_bitCount_0f7a4 10 = .ok (.iload_n 0, 1) := by decide +kernel
theorem dJ6_bitCount_0f7a4_11 : decode cJ6_bitCount_0f7a4 11 = .ok (.ldc_w 266, 3) := by decide +kernel
theorem dJ6_bitCount_0f7a4_14 : decode cJ6_bitCount_0f7a4 14 = .ok (.iand, 1) := by decide +kernel
theorem dJ6_bitCount_0f7a4_15 : decode cJ6_bitCount_0f7a4 15 = .ok (.iload_n 0, 1) := by decide +kernel
theorem dJ6_bitCount_0f7a4_16 : decode cJ6_bitCount_0f7a4 16 = .ok (.iconst 2, 1) := by decide +kernel
theorem dJ6_bitCount_0f7a4_17 : decode cJ6_bitCount_0f7a4 17 = .ok (.iushr, 1) := by decide +kernel
theorem dJ6_bitCount_0f7a4_18 : decode cJ6_bitCount_0f7a4 18 = .ok (.ldc_w 266, 3) := by decide +kernel
theorem dJ6_bitCount_0f7a4_21 : decode cJ6_bitCount_0f7a4 21 = .ok (.iand, 1) := by decide +kernel
theorem dJ6_bitCount_0f7a4_22 : decode cJ6_bitCount_0f7a4 22 = .ok (.iadd, 1) := by decide +kernel
theorem dJ6_bitCount_0f7a4_23 : decode cJ6_bitCount_0f7a4 23 = .ok (.istore_n 0, 1) := by decide +kernel
theorem dJ6_bitCount_0f7a4_24 : decode cJ6_bitCount_0f7a4 24 = .ok (.iload_n 0, 1) := by decide +kernel
theorem dJ6_bitCount_0f7a4_25 : decode cJ6_bitCount_0f7a4 25 = .ok (.iload_n 0, 1) := by decide +kernel
theorem dJ6_bitCount_0f7a4_26 : decode cJ6_bitCount_0f7a4 26 = .ok (.iconst 4, 1) := by decide +kernel
theorem dJ6_bitCount_0f7a4_27 : decode cJ6_bitCount_0f7a4 27 = .ok (.iushr, 1) := by decide +kernel
theorem dJ6_bitCount_0f7a4_28 : decode cJ6_bitCount_0f7a4 28 = .ok (.iadd, 1) := by decide +kernel
theorem dJ6_bitCount_0f7a4_29 : decode cJ6_bitCount_0f7a4 29 = .ok (.ldc_w 267, 3) := by decide +kernel
theorem dJ6_bitCount_0f7a4_32 : decode cJ6_bitCount_0f7a4 32 = .ok (.iand, 1) := by decide +kernel
theorem dJ6_bitCount_0f7a4_33 : decode cJ6_bitCount_0f7a4 33 = .ok (.istore_n 0, 1) := by decide +kernel
theorem dJ6_bitCount_0f7a4_34 : decode cJ6_bitCount_0f7a4 34 = .ok (.iload_n 0, 1) := by decide +kernel
theorem dJ6_bitCount_0f7a4_35 : decode cJ6_bitCount_0f7a4 35 = .ok (.iload_n 0, 1) := by decide +kernel
theorem dJ6_bitCount_0f7a4_36 : decode cJ6_bitCount_0f7a4 36 = .ok (.bipush 8, 2) := by decide +kernel
theorem dJ6_bitCount_0f7a4_38 : decode cJ6_bitCount_0f7a4 38 = .ok (.iushr, 1) := by decide +kernel
theorem dJ6_bitCount_0f7a4_39 : decode cJ6_bitCount_0f7a4 39 = .ok (.iadd, 1) := by decide +kernel
theorem dJ6_bitCount_0f7a4_40 : decode cJ6_bitCount_0f7a4 40 = .ok (.istore_n 0, 1) := by decide +kernel
theorem dJ6_bitCount_0f7a4_41 : decode cJ6_bitCount_0f7a4 41 = .ok (.iload_n 0, 1) := by decide +kernel
theorem dJ6_bitCount_0f7a4_42 : decode cJ6_bitCount_0f7a4 42 = .ok (.iload_n 0, 1) := by decide +kernel
theorem dJ6_bitCount_0f7a4_43 : decode cJ6_bitCount_0f7a4 43 = .ok (.bipush 16, 2) := by decide +kernel
theorem dJ6_bitCount_0f7a4_45 : decode cJ6_bitCount_0f7a4 45 = .ok (.iushr, 1) := by decide +kernel
theorem dJ6_bitCount_0f7a4_46 : decode cJ6_bitCount_0f7a4 46 = .ok (.iadd, 1) := by decide +kernel
theorem dJ6_bitCount_0f7a4_47 : decode cJ6_bitCount_0f7a4 47 = .ok (.istore_n 0, 1) := by decide +kernel
theorem dJ6_bitCount_0f7a4_48 : decode cJ6_bitCount_0f7a4 48 = .ok (.iload_n 0, 1) := by decide +kernel
theorem dJ6_bitCount_0f7a4_49 : decode cJ6_bitCount_0f7a4 49 = .ok (.bipush 63, 2) := by decide +kernel
theorem dJ6_bitCount_0f7a4_51 : decode cJ6_bitCount_0f7a4 51 = .ok (.iand, 1) := by decide +kernel
theorem dJ6_bitCount_0f7a4_52 : decode cJ6_bitCount_0f7a4 52 = .ok (.ireturn, 1) := by decide +kernel
theorem dJ13_bitCount_95d88_0 : decode cJ13_bitCount_95d88 0 = .ok (.lload_n 0, 1) := by decide +kernel
theorem dJ13_bitCount_95d88_1 : decode cJ13_bitCount_95d88 1 = .ok (.lload_n 0, 1) := by decide +kernel
theorem dJ13_bitCount_95d88_2 : decode cJ13_bitCount_95d88 2 = .ok (.iconst 1, 1) := by decide +kernel
theorem dJ13_bitCount_95d88_3 : decode cJ13_bitCount_95d88 3 = .ok (.lushr, 1) := by decide +kernel
theorem dJ13_bitCount_95d88_4 : decode cJ13_bitCount_95d88 4 = .ok (.ldc2_w 314, 3) := by decide +kernel
theorem dJ13_bitCount_95d88_7 : decode cJ13_bitCount_95d88 7 = .ok (.land, 1) := by decide +kernel
theorem dJ13_bitCount_95d88_8 : decode cJ13_bitCount_95d88 8 = .ok (.lsub, 1) := by decide +kernel
theorem dJ13_bitCount_95d88_9 : decode cJ13_bitCount_95d88 9 = .ok (.lstore_n 0, 1) := by decide +kernel
theorem dJ13_bitCount_95d88_10 : decode cJ13_bitCount_95d88 10 = .ok (.lload_n 0, 1) := by decide +kernel
theorem dJ13_bitCount_95d88_11 : decode cJ13_bitCount_95d88 11 = .ok (.ldc2_w 316, 3) := by decide +kernel
theorem dJ13_bitCount_95d88_14 : decode cJ13_bitCount_95d88 14 = .ok (.land, 1) := by decide +kernel
theorem dJ13_bitCount_95d88_15 : decode cJ13_bitCount_95d88 15 = .ok (.lload_n 0, 1) := by decide +kernel
theorem dJ13_bitCount_95d88_16 : decode cJ13_bitCount_95d88 16 = .ok (.iconst 2, 1) := by decide +kernel
theorem dJ13_bitCount_95d88_17 : decode cJ13_bitCount_95d88 17 = .ok (.lushr, 1) := by decide +kernel
theorem dJ13_bitCount_95d88_18 : decode cJ13_bitCount_95d88 18 = .ok (.ldc2_w 316, 3) := by decide +kernel
theorem dJ13_bitCount_95d88_21 : decode cJ13_bitCount_95d88 21 = .ok (.land, 1) := by decide +kernel
theorem dJ13_bitCount_95d88_22 : decode cJ13_bitCount_95d88 22 = .ok (.ladd, 1) := by decide +kernel
theorem dJ13_bitCount_95d88_23 : decode cJ13_bitCount_95d88 23 = .ok (.lstore_n 0, 1) := by decide +kernel
theorem dJ13_bitCount_95d88_24 : decode cJ13_bitCount_95d88 24 = .ok (.lload_n 0, 1) := by decide +kernel
theorem dJ13_bitCount_95d88_25 : decode cJ13_bitCount_95d88 25 = .ok (.lload_n 0, 1) := by decide +kernel
theorem dJ13_bitCount_95d88_26 : decode cJ13_bitCount_95d88 26 = .ok (.iconst 4, 1) := by decide +kernel
theorem dJ13_bitCount_95d88_27 : decode cJ13_bitCount_95d88 27 = .ok (.lushr, 1) := by decide +kernel
theorem dJ13_bitCount_95d88_28 : decode cJ13_bitCount_95d88 28 = .ok (.ladd, 1) := by decide +kernel
theorem dJ13_bitCount_95d88_29 : decode cJ13_bitCount_95d88 29 = .ok (.ldc2_w 318, 3) := by decide +kernel
theorem dJ13_bitCount_95d88_32 : decode cJ13_bitCount_95d88 32 = .ok (.land, 1) := by decide +kernel
theorem dJ13_bitCount_95d88_33 : decode cJ13_bitCount_95d88 33 = .ok (.lstore_n 0, 1) := by decide +kernel
theorem dJ13_bitCount_95d88_34 : decode cJ13_bitCount_95d88 34 = .ok (.lload_n 0, 1) := by decide +kernel
theorem dJ13_bitCount_95d88_35 : decode cJ13_bitCount_95d88 35 = .ok (.lload_n 0, 1) := by decide +kernel
theorem dJ13_bitCount_95d88_36 : decode cJ13_bitCount_95d88 36 = .ok (.bipush 8, 2) := by decide +kernel
theorem dJ13_bitCount_95d88_38 : decode cJ13_bitCount_95d88 38 = .ok (.lushr, 1) := by decide +kernel
theorem dJ13_bitCount_95d88_39 : decode cJ13_bitCount_95d88 39 = .ok (.ladd, 1) := by decide +kernel
theorem dJ13_bitCount_95d88_40 : decode cJ13_bitCount_95d88 40 = .ok (.lstore_n 0, 1) := by decide +kernel
theorem dJ13_bitCount_95d88_41 : decode cJ13_bitCount_95d88 41 = .ok (.lload_n 0, 1) := by decide +kernel
theorem dJ13_bitCount_95d88_42 : decode cJ13_bitCount_95d88 42 = .ok (.lload_n 0, 1) := by decide +kernel
theorem dJ13_bitCount_95d88_43 : decode cJ13_bitCount_95d88 43 = .ok (.bipush 16, 2) := by decide +kernel
theorem dJ13_bitCount_95d88_45 : decode cJ13_bitCount_95d88 45 = .ok (.lushr, 1) := by decide +kernel
theorem dJ13_bitCount_95d88_46 : decode cJ13_bitCount_95d88 46 = .ok (.ladd, 1) := by decide +kernel
theorem dJ13_bitCount_95d88_47 : decode cJ13_bitCount_95d88 47 = .ok (.lstore_n 0, 1) := by decide +kernel
theorem dJ13_bitCount_95d88_48 : decode cJ13_bitCount_95d88 48 = .ok (.lload_n 0, 1) := by decide +kernel
theorem dJ13_bitCount_95d88_49 : decode cJ13_bitCount_95d88 49 = .ok (.lload_n 0, 1) := by decide +kernel
theorem dJ13_bitCount_95d88_50 : decode cJ13_bitCount_95d88 50 = .ok (.bipush 32, 2) := by decide +kernel
theorem dJ13_bitCount_95d88_52 : decode cJ13_bitCount_95d88 52 = .ok (.lushr, 1) := by decide +kernel
theorem dJ13_bitCount_95d88_53 : decode cJ13_bitCount_95d88 53 = .ok (.ladd, 1) := by decide +kernel
theorem dJ13_bitCount_95d88_54 : decode cJ13_bitCount_95d88 54 = .ok (.lstore_n 0, 1) := by decide +kernel
theorem dJ13_bitCount_95d88_55 : decode cJ13_bitCount_95d88 55 = .ok (.lload_n 0, 1) := by decide +kernel
theorem dJ13_bitCount_95d88_56 : decode cJ13_bitCount_95d88 56 = .ok (.l2i, 1) := by decide +kernel
theorem dJ13_bitCount_95d88_57 : decode cJ13_bitCount_95d88 57 = .ok (.bipush 127, 2) := by decide +kernel
theorem dJ13_bitCount_95d88_59 : decode cJ13_bitCount_95d88 59 = .ok (.iand, 1) := by decide +kernel
theorem dJ13_bitCount_95d88_60 : decode cJ13_bitCount_95d88 60 = .ok (.ireturn, 1) := by decide +kernel
theorem dJ9_max_7cf53_0 : decode cJ9_max_7cf53 0 = .ok (.iload_n 0, 1) := by decide +kernel
theorem dJ9_max_7cf53_1 : decode cJ9_max_7cf53 1 = .ok (.iload_n 1, 1) := by decide +kernel
theorem dJ9_max_7cf53_2 : decode cJ9_max_7cf53 2 = .ok (.if_icmp .lt 7, 3) := by decide +kernel
theorem dJ9_max_7cf53_5 : decode cJ9_max_7cf53 5 = .ok (.iload_n 0, 1) := by decide +kernel
theorem dJ9_max_7cf53_6 : decode cJ9_max_7cf53 6 = .ok (.goto 4, 3) := by decide +kernel
theorem dJ9_max_7cf53_9 : decode cJ9_max_7cf53 9 = .ok (.iload_n 1, 1) := by decide +kernel
theorem dJ9_max_7cf53_10 : decode cJ9_max_7cf53 10 = .ok (.ireturn, 1) := by decide +kernel
theorem dJ9_min_7cf53_0 : decode cJ9_min_7cf53 0 = .ok (.iload_n 0, 1) := by decide +kernel
theorem dJ9_min_7cf53_1 : decode cJ9_min_7cf53 1 = .ok (.iload_n 1, 1) := by decide +kernel
theorem dJ9_min_7cf53_2 : decode cJ9_min_7cf53 2 = .ok (.if_icmp .gt 7, 3) := by decide +kernel
theorem dJ9_min_7cf53_5 : decode cJ9_min_7cf53 5 = .ok (.iload_n 0, 1) := by decide +kernel
theorem dJ9_min_7cf53_6 : decode cJ9_min_7cf53 6 = .ok (.goto 4, 3) := by decide +kernel
theorem dJ9_min_7cf53_9 : decode cJ9_min_7cf53 9 = .ok (.iload_n 1, 1) := by decide +kernel
theorem dJ9_min_7cf53_10 : decode cJ9_min_7cf53 10 = .ok (.ireturn, 1) := by decide +kernel
theorem dJ9_min_f86c9_0 : decode cJ9_min_f86c9 0 = .ok (.lload_n 0, 1) := by decide +kernel
theorem dJ9_min_f86c9_1 : decode cJ9_min_f86c9 1 = .ok (.lload_n 2, 1) := by decide +kernel
theorem dJ9_min_f86c9_2 : decode cJ9_min_f86c9 2 = .ok (.lcmp, 1) := by decide +kernel
theorem dJ9_min_f86c9_3 : decode cJ9_min_f86c9 3 = .ok (.ifCond .gt 7, 3) := by decide +kernel
theorem dJ9_min_f86c9_6 : decode cJ9_min_f86c9 6 = .ok (.lload_n 0, 1) := by decide +kernel
theorem dJ9_min_f86c9_7 : decode cJ9_min_f86c9 7 = .ok (.goto 4, 3) := by decide +kernel
theorem dJ9_min_f86c9_10 : decode cJ9_min_f86c9 10 = .ok (.lload_n 2, 1) := by decide +kernel
theorem dJ9_min_f86c9_11 : decode cJ9_min_f86c9 11 = .ok (.lreturn, 1) := by decide +kernel
theorem dJ0_length_8abf5_0 : decode cJ0_length_8abf5 0 = .ok (.aload_n 0, 1) := by decide +kernel
theorem dJ0_length_8abf5_1 : decode cJ0_length_8abf5 1 = .ok (.getfield 9, 3) := by decide +kernel
theorem dJ0_length_8abf5_4 : decode cJ0_length_8abf5 4 = .ok (.arraylength, 1) := by decide +kernel
theorem dJ0_length_8abf5_5 : decode cJ0_length_8abf5 5 = .ok (.aload_n 0, 1) := by decide +kernel
theorem dJ0_length_8abf5_6 : decode cJ0_length_8abf5 6 = .ok (.invokevirtual 335, 3) := by decide +kernel
theorem dJ0_length_8abf5_9 : decode cJ0_length_8abf5 9 = .ok (.ishr, 1) := by decide +kernel
theorem dJ0_length_8abf5_10 : decode cJ0_length_8abf5 10 = .ok (.ireturn, 1) := by decide +kernel
theorem dJ0_charAt_5068e_0 : decode cJ0_charAt_5068e 0 = .ok (.aload_n 0, 1) := by decide +kernel
theorem dJ0_charAt_5068e_1 : decode cJ0_charAt_5068e 1 = .ok (.invokevirtual 492, 3) := by decide +kernel
theorem dJ0_charAt_5068e_4 : decode cJ0_charAt_5068e 4 = .ok (.ifCond .eq 12, 3) := by decide +kernel
theorem dJ0_charAt_5068e_7 : decode cJ0_charAt_5068e 7 = .ok (.aload_n 0, 1) := by decide +kernel
theorem dJ0_charAt_5068e_8 : decode cJ0_charAt_5068e 8 = .ok (.getfield 9, 3) := by decide +kernel
theorem dJ0_charAt_5068e_11 : decode cJ0_charAt_5068e 11 = .ok (.iload_n 1, 1) := by decide +kernel
theorem dJ0_charAt_5068e_12 : decode cJ0_charAt_5068e 12 = .ok (.invokestatic 495, 3) := by decide +kernel
theorem dJ0_charAt_5068e_15 : decode cJ0_charAt_5068e 15 = .ok (.ireturn, 1) := by decide +kernel
theorem dJ0_charAt_5068e_16 : decode cJ0_charAt_5068e 16 = .ok (.aload_n 0, 1) := by decide +kernel
theorem dJ0_charAt_5068e_17 : decode cJ0_charAt_5068e 17 = .ok (.getfield 9, 3) := by decide +kernel
theorem dJ0_charAt_5068e_20 : decode cJ0_charAt_5068e 20 = .ok (.iload_n 1, 1) := by decide +kernel
theorem dJ0_charAt_5068e_21 : decode cJ0_charAt_5068e 21 = .ok (.invokestatic 498, 3) := by decide +kernel
theorem dJ0_charAt_5068e_24 : decode cJ0_charAt_5068e 24 = .ok (.ireturn, 1) := by decide +kernel
theorem dJ0_coder_7d493_0 : decode cJ0_coder_7d493 0 = .ok (.getstatic 38, 3) := by decide +kernel
theorem dJ0_coder_7d493_3 : decode cJ0_coder_7d493 3 = .ok (.ifCond .eq 10, 3) := by decide +kernel
theorem dJ0_coder_7d493_6 : decode cJ0_coder_7d493 6 = .ok (.aload_n 0, 1) := by decide +kernel
theorem dJ0_coder_7d493_7 : decode cJ0_coder_7d493 7 = .ok (.getfield 15, 3) := by decide +kernel
theorem dJ0_coder_7d493_10 : decode cJ0_coder_7d493 10 = .ok (.goto 4, 3) := by decide +kernel
theorem dJ0_coder_7d493_13 : decode cJ0_coder_7d493 13 = .ok (.iconst 1, 1) := by decide +kernel
theorem dJ0_coder_7d493_14 : decode cJ0_coder_7d493 14 = .ok (.ireturn, 1) := by decide +kernel
theorem dJ0_isLatin1_aae02_0 : decode cJ0_isLatin1_aae02 0 = .ok (.getstatic 38, 3) := by decide +kernel
theorem dJ0_isLatin1_aae02_3 : decode cJ0_isLatin1_aae02 3 = .ok (.ifCond .eq 14, 3) := by decide +kernel
theorem dJ0_isLatin1_aae02_6 : decode cJ0_isLatin1_aae02 6 = .ok (.aload_n 0, 1) := by decide +kernel
theorem dJ0_isLatin1_aae02_7 : decode cJ0_isLatin1_aae02 7 = .ok (.getfield 15, 3) := by decide +kernel
theorem dJ0_isLatin1_aae02_10 : decode cJ0_isLatin1_aae02 10 = .ok (.ifCond .ne 7, 3) := by decide +kernel
theorem dJ0_isLatin1_aae02_13 : decode cJ0_isLatin1_aae02 13 = .ok (.iconst 1, 1) := by decide +kernel
theorem dJ0_isLatin1_aae02_14 : decode cJ0_isLatin1_aae02 14 = .ok (.goto 4, 3) := by decide +kernel
theorem dJ0_isLatin1_aae02_17 : decode cJ0_isLatin1_aae02 17 = .ok (.iconst 0, 1) := by decide +kernel
theorem dJ0_isLatin1_aae02_18 : decode cJ0_isLatin1_aae02 18 = .ok (.ireturn, 1) := by decide +kernel
theorem dJ0_checkIndex_df160_0 : decode cJ0_checkIndex_df160 0 = .ok (.iload_n 0, 1) := by decide +kernel
theorem dJ0_checkIndex_df160_1 : decode cJ0_checkIndex_df160 1 = .ok (.iload_n 1, 1) := by decide +kernel
theorem dJ0_checkIndex_df160_2 : decode cJ0_checkIndex_df160 2 = .ok (.getstatic 1053, 3) := by decide +kernel
theorem dJ0_checkIndex_df160_5 : decode cJ0_checkIndex_df160 5 = .ok (.invokestatic 1059, 3) := by decide +kernel
theorem dJ0_checkIndex_df160_8 : decode cJ0_checkIndex_df160 8 = .ok (.pop, 1) := by decide +kernel
theorem dJ0_checkIndex_df160_9 : decode cJ0_checkIndex_df160 9 = .ok (.return_, 1) := by decide +kernel
theorem dJ1_charAt_3b067_0 : decode cJ1_charAt_3b067 0 = .ok (.iload_n 1, 1) := by decide +kernel
theorem dJ1_charAt_3b067_1 : decode cJ1_charAt_3b067 1 = .ok (.aload_n 0, 1) := by decide +kernel
theorem dJ1_charAt_3b067_2 : decode cJ1_charAt_3b067 2 = .ok (.arraylength, 1) := by decide +kernel
theorem dJ1_charAt_3b067_3 : decode cJ1_charAt_3b067 3 = .ok (.invokestatic 9, 3) := by decide +kernel
theorem dJ1_charAt_3b067_6 : decode cJ1_charAt_3b067 6 = .ok (.aload_n 0, 1) := by decide +kernel
theorem dJ1_charAt_3b067_7 : decode cJ1_charAt_3b067 7 = .ok (.iload_n 1, 1) := by decide +kernel
theorem dJ1_charAt_3b067_8 : decode cJ1_charAt_3b067 8 = .ok (.baload, 1) := by decide +kernel
theorem dJ1_charAt_3b067_9 : decode cJ1_charAt_3b067 9 = .ok (.sipush 255, 3) := by decide +kernel
theorem dJ1_charAt_3b067_12 : decode cJ1_charAt_3b067 12 = .ok (.iand, 1) := by decide +kernel
theorem dJ1_charAt_3b067_13 : decode cJ1_charAt_3b067 13 = .ok (.i2c, 1) := by decide +kernel
theorem dJ1_charAt_3b067_14 : decode cJ1_charAt_3b067 14 = .ok (.ireturn, 1) := by decide +kernel
theorem dJ2_getChar_3b067_0 : decode cJ2_getChar_3b067 0 = .ok (.getstatic 44, 3) := by decide +kernel
theorem dJ2_getChar_3b067_3 : decode cJ2_getChar_3b067 3 = .ok (.ifCond .ne 25, 3) := by decide +kernel
theorem dJ2_getChar_3b067_6 : decode cJ2_getChar_3b067 6 = .ok (.iload_n 1, 1) := by decide +kernel
theorem dJ2_getChar_3b067_7 : decode cJ2_getChar_3b067 7 = .ok (.ifCond .lt 11, 3) := by decide +kernel
theorem dJ2_getChar_3b067_10 : decode cJ2_getChar_3b067 10 = .ok (.iload_n 1, 1) := by decide +kernel
theorem dJ2_getChar_3b067_11 : decode cJ2_getChar_3b067 11 = .ok (.aload_n 0, 1) := by decide +kernel
theorem dJ2_getChar_3b067_12 : decode cJ2_getChar_3b067 12 = .ok (.invokestatic 48, 3) := by decide +kernel
theorem dJ2_getChar_3b067_15 : decode cJ2_getChar_3b067 15 = .ok (.if_icmp .lt 13, 3) := by decide +kernel
theorem dJ2_getChar_3b067_18 : decode cJ2_getChar_3b067 18 = .ok (.new 52, 3) := by decide +kernel
theorem dJ2_getChar_3b067_21 : decode cJ2_getChar_3b067 21 = .ok (.dup, 1) := by decide +kernel
theorem dJ2_getChar_3b067_22 : decode cJ2_getChar_3b067 22 = .ok (.ldc 54, 2) := by decide +kernel
theorem dJ2_getChar_3b067_24 : decode cJ2_getChar_3b067 24 = .ok (.invokespecial 56, 3) := by decide +kernel
theorem dJ2_getChar_3b067_27 : decode cJ2_getChar_3b067 27 = .ok (.athrow, 1) := by decide +kernel
theorem dJ2_getChar_3b067_28 : decode cJ2_getChar_3b067 28 = .ok (.iload_n 1, 1) := by decide +kernel
theorem dJ2_getChar_3b067_29 : decode cJ2_getChar_3b067 29 = .ok (.iconst 1, 1) := by decide +kernel
theorem dJ2_getChar_3b067_30 : decode cJ2_getChar_3b067 30 = .ok (.ishl, 1) := by decide +kernel
theorem dJ2_getChar_3b067_31 : decode cJ2_getChar_3b067 31 = .ok (.istore_n 1, 1) := by decide +kernel
theorem dJ2_getChar_3b067_32 : decode cJ2_getChar_3b067 32 = .ok (.aload_n 0, 1) := by decide +kernel
theorem dJ2_getChar_3b067_33 : decode cJ2_getChar_3b067 33 = .ok (.iload_n 1, 1) := by decide +kernel
theorem dJ2_getChar_3b067_34 : decode cJ2_getChar_3b067 34 = .ok (.iinc 1 1, 3) := by decide +kernel
theorem dJ2_getChar_3b067_37 : decode cJ2_getChar_3b067 37 = .ok (.baload, 1) := by decide +kernel
theorem dJ2_getChar_3b067_38 : decode cJ2_getChar_3b067 38 = .ok (.sipush 255, 3) := by decide +kernel
theorem dJ2_getChar_3b067_41 : decode cJ2_getChar_3b067 41 = .ok (.iand, 1) := by decide +kernel
theorem dJ2_getChar_3b067_42 : decode cJ2_getChar_3b067 42 = .ok (.getstatic 59, 3) := by decide +kernel
theorem dJ2_getChar_3b067_45 : decode cJ2_getChar_3b067 45 = .ok (.ishl, 1) := by decide +kernel
theorem dJ2_getChar_3b067_46 : decode cJ2_getChar_3b067 46 = .ok (.aload_n 0, 1) := by decide +kernel
theorem dJ2_getChar_3b067_47 : decode cJ2_getChar_3b067 47 = .ok (.iload_n 1, 1) := by decide +kernel
theorem dJ2_getChar_3b067_48 : decode cJ2_getChar_3b067 48 = .ok (.baload, 1) := by decide +kernel
theorem dJ2_getChar_3b067_49 : decode cJ2_getChar_3b067 49 = .ok (.sipush 255, 3) := by decide +kernel
theorem dJ2_getChar_3b067_52 : decode cJ2_getChar_3b067 52 = .ok (.iand, 1) := by decide +kernel
theorem dJ2_getChar_3b067_53 : decode cJ2_getChar_3b067 53 = .ok (.getstatic 63, 3) := by decide +kernel
theorem dJ2_getChar_3b067_56 : decode cJ2_getChar_3b067 56 = .ok (.ishl, 1) := by decide +kernel
theorem dJ2_getChar_3b067_57 : decode cJ2_getChar_3b067 57 = .ok (.ior, 1) := by decide +kernel
theorem dJ2_getChar_3b067_58 : decode cJ2_getChar_3b067 58 = .ok (.i2c, 1) := by decide +kernel
theorem dJ2_getChar_3b067_59 : decode cJ2_getChar_3b067 59 = .ok (.ireturn, 1) := by decide +kernel
theorem dJ2_length_9d52b_0 : decode cJ2_length_9d52b 0 = .ok (.aload_n 0, 1) := by decide +kernel
theorem dJ2_length_9d52b_1 : decode cJ2_length_9d52b 1 = .ok (.arraylength, 1) := by decide +kernel
theorem dJ2_length_9d52b_2 : decode cJ2_length_9d52b 2 = .ok (.iconst 1, 1) := by decide +kernel
theorem dJ2_length_9d52b_3 : decode cJ2_length_9d52b 3 = .ok (.ishr, 1) := by decide +kernel
theorem dJ2_length_9d52b_4 : decode cJ2_length_9d52b 4 = .ok (.ireturn, 1) := by decide +kernel
theorem dJ2_charAt_3b067_0 : decode cJ2_charAt_3b067 0 = .ok (.iload_n 1, 1) := by decide +kernel
theorem dJ2_charAt_3b067_1 : decode cJ2_charAt_3b067 1 = .ok (.aload_n 0, 1) := by decide +kernel
theorem dJ2_charAt_3b067_2 : decode cJ2_charAt_3b067 2 = .ok (.invokestatic 67, 3) := by decide +kernel
theorem dJ2_charAt_3b067_5 : decode cJ2_charAt_3b067 5 = .ok (.aload_n 0, 1) := by decide +kernel
theorem dJ2_charAt_3b067_6 : decode cJ2_charAt_3b067 6 = .ok (.iload_n 1, 1) := by decide +kernel
theorem dJ2_charAt_3b067_7 : decode cJ2_charAt_3b067 7 = .ok (.invokestatic 71, 3) := by decide +kernel
theorem dJ2_charAt_3b067_10 : decode cJ2_charAt_3b067 10 = .ok (.ireturn, 1) := by decide +kernel
theorem dJ2_checkIndex_2214a_0 : decode cJ2_checkIndex_2214a 0 = .ok (.iload_n 0, 1) := by decide +kernel
theorem dJ2_checkIndex_2214a_1 : decode cJ2_checkIndex_2214a 1 = .ok (.aload_n 1, 1) := by decide +kernel
theorem dJ2_checkIndex_2214a_2 : decode cJ2_checkIndex_2214a 2 = .ok (.invokestatic 48, 3) := by decide +kernel
theorem dJ2_checkIndex_2214a_5 : decode cJ2_checkIndex_2214a 5 = .ok (.invokestatic 414, 3) := by decide +kernel
theorem dJ2_checkIndex_2214a_8 : decode cJ2_checkIndex_2214a 8 = .ok (.return_, 1) := by decide +kernel
theorem dJ7_fill_d0a16_0 : decode cJ7_fill_d0a16 0 = .ok (.iconst 0, 1) := by decide +kernel
theorem dJ7_fill_d0a16_1 : decode cJ7_fill_d0a16 1 = .ok (.istore_n 3, 1) := by decide +kernel
theorem dJ7_fill_d0a16_2 : decode cJ7_fill_d0a16 2 = .ok (.aload_n 0, 1) := by decide +kernel
theorem dJ7_fill_d0a16_3 : decode cJ7_fill_d0a16 3 = .ok (.arraylength, 1) := by decide +kernel
theorem dJ7_fill_d0a16_4 : decode cJ7_fill_d0a16 4 = .ok (.istore 4, 2) := by decide +kernel
theorem dJ7_fill_d0a16_6 : decode cJ7_fill_d0a16 6 = .ok (.iload_n 3, 1) := by decide +kernel
theorem dJ7_fill_d0a16_7 : decode cJ7_fill_d0a16 7 = .ok (.iload 4, 2) := by decide +kernel
theorem dJ7_fill_d0a16_9 : decode cJ7_fill_d0a16 9 = .ok (.if_icmp .ge 13, 3) := by decide +kernel
theorem dJ7_fill_d0a16_12 : decode cJ7_fill_d0a16 12 = .ok (.aload_n 0, 1) := by decide +kernel
theorem dJ7_fill_d0a16_13 : decode cJ7_fill_d0a16 13 = .ok (.iload_n 3, 1) := by decide +kernel
theorem dJ7_fill_d0a16_14 : decode cJ7_fill_d0a16 14 = .ok (.lload_n 1, 1) := by decide +kernel
theorem dJ7_fill_d0a16_15 : decode cJ7_fill_d0a16 15 = .ok (.lastore, 1) := by decide +kernel
theorem dJ7_fill_d0a16_16 : decode cJ7_fill_d0a16 16 = .ok (.iinc 3 1, 3) := by decide +kernel
theorem dJ7_fill_d0a16_19 : decode cJ7_fill_d0a16 19 = .ok (.goto (-13), 3) := by decide +kernel
theorem dJ7_fill_d0a16_22 : decode cJ7_fill_d0a16 22 = .ok (.return_, 1) := by decide +kernel
theorem dJ7_fill_53178_0 : decode cJ7_fill_53178 0 = .ok (.iconst 0, 1) := by decide +kernel
theorem dJ7_fill_53178_1 : decode cJ7_fill_53178 1 = .ok (.istore_n 2, 1) := by decide +kernel
theorem dJ7_fill_53178_2 : decode cJ7_fill_53178 2 = .ok (.aload_n 0, 1) := by decide +kernel
theorem dJ7_fill_53178_3 : decode cJ7_fill_53178 3 = .ok (.arraylength, 1) := by decide +kernel
theorem dJ7_fill_53178_4 : decode cJ7_fill_53178 4 = .ok (.istore_n 3, 1) := by decide +kernel
theorem dJ7_fill_53178_5 : decode cJ7_fill_53178 5 = .ok (.iload_n 2, 1) := by decide +kernel
theorem dJ7_fill_53178_6 : decode cJ7_fill_53178 6 = .ok (.iload_n 3, 1) := by decide +kernel
theorem dJ7_fill_53178_7 : decode cJ7_fill_53178 7 = .ok (.if_icmp .ge 13, 3) := by decide +kernel
theorem dJ7_fill_53178_10 : decode cJ7_fill_53178 10 = .ok (.aload_n 0, 1) := by decide +kernel
theorem dJ7_fill_53178_11 : decode cJ7_fill_53178 11 = .ok (.iload_n 2, 1) := by decide +kernel
theorem dJ7_fill_53178_12 : decode cJ7_fill_53178 12 = .ok (.iload_n 1, 1) := by decide +kernel
theorem dJ7_fill_53178_13 : decode cJ7_fill_53178 13 = .ok (.iastore, 1) := by decide +kernel
theorem dJ7_fill_53178_14 : decode cJ7_fill_53178 14 = .ok (.iinc 2 1, 3) := by decide +kernel
theorem dJ7_fill_53178_17 : decode cJ7_fill_53178 17 = .ok (.goto (-12), 3) := by decide +kernel
theorem dJ7_fill_53178_20 : decode cJ7_fill_53178 20 = .ok (.return_, 1) := by decide +kernel
theorem dJ3_checkIndex_8e157_0 : decode cJ3_checkIndex_8e157 0 = .ok (.iload_n 0, 1) := by decide +kernel
theorem dJ3_checkIndex_8e157_1 : decode cJ3_checkIndex_8e157 1 = .ok (.ifCond .lt 8, 3) := by decide +kernel
theorem dJ3_checkIndex_8e157_4 : decode cJ3_checkIndex_8e157 4 = .ok (.iload_n 0, 1) := by decide +kernel
theorem dJ3_checkIndex_8e157_5 : decode cJ3_checkIndex_8e157 5 = .ok (.iload_n 1, 1) := by decide +kernel
theorem dJ3_checkIndex_8e157_6 : decode cJ3_checkIndex_8e157 6 = .ok (.if_icmp .lt 10, 3) := by decide +kernel
theorem dJ3_checkIndex_8e157_9 : decode cJ3_checkIndex_8e157 9 = .ok (.aload_n 2, 1) := by decide +kernel
theorem dJ3_checkIndex_8e157_10 : decode cJ3_checkIndex_8e157 10 = .ok (.iload_n 0, 1) := by decide +kernel
theorem dJ3_checkIndex_8e157_11 : decode cJ3_checkIndex_8e157 11 = .ok (.iload_n 1, 1) := by decide +kernel
theorem dJ3_checkIndex_8e157_12 : decode cJ3_checkIndex_8e157 12 = .ok (.invokestatic 95, 3) := by decide +kernel
theorem dJ3_checkIndex_8e157_15 : decode cJ3_checkIndex_8e157 15 = .ok (.athrow, 1) := by decide +kernel
theorem dJ3_checkIndex_8e157_16 : decode cJ3_checkIndex_8e157 16 = .ok (.iload_n 0, 1) := by decide +kernel
theorem dJ3_checkIndex_8e157_17 : decode cJ3_checkIndex_8e157 17 = .ok (.ireturn, 1) := by decide +kernel
theorem dL_law_0 : decode cL_law 0 = .ok (.new 7, 3) := by decide +kernel
theorem dL_law_3 : decode cL_law 3 = .ok (.dup, 1) := by decide +kernel
theorem dL_law_4 : decode cL_law 4 = .ok (.invokespecial 9, 3) := by decide +kernel
theorem dL_law_7 : decode cL_law 7 = .ok (.astore_n 1, 1) := by decide +kernel
theorem dL_law_8 : decode cL_law 8 = .ok (.new 10, 3) := by decide +kernel
theorem dL_law_11 : decode cL_law 11 = .ok (.dup, 1) := by decide +kernel
theorem dL_law_12 : decode cL_law 12 = .ok (.invokespecial 12, 3) := by decide +kernel
theorem dL_law_15 : decode cL_law 15 = .ok (.astore_n 2, 1) := by decide +kernel
theorem dL_law_16 : decode cL_law 16 = .ok (.iconst 0, 1) := by decide +kernel
theorem dL_law_17 : decode cL_law 17 = .ok (.istore_n 3, 1) := by decide +kernel
theorem dL_law_18 : decode cL_law 18 = .ok (.iload_n 3, 1) := by decide +kernel
theorem dL_law_19 : decode cL_law 19 = .ok (.aload_n 0, 1) := by decide +kernel
theorem dL_law_20 : decode cL_law 20 = .ok (.arraylength, 1) := by decide +kernel
theorem dL_law_21 : decode cL_law 21 = .ok (.bipush 6, 2) := by decide +kernel
theorem dL_law_23 : decode cL_law 23 = .ok (.isub, 1) := by decide +kernel
theorem dL_law_24 : decode cL_law 24 = .ok (.if_icmp .gt 1770, 3) := by decide +kernel
theorem dL_law_27 : decode cL_law 27 = .ok (.aload_n 0, 1) := by decide +kernel
theorem dL_law_28 : decode cL_law 28 = .ok (.iload_n 3, 1) := by decide +kernel
theorem dL_law_29 : decode cL_law 29 = .ok (.iaload, 1) := by decide +kernel
theorem dL_law_30 : decode cL_law 30 = .ok (.bipush 63, 2) := by decide +kernel
theorem dL_law_32 : decode cL_law 32 = .ok (.iand, 1) := by decide +kernel
theorem dL_law_33 : decode cL_law 33 = .ok (.tableswitch 1755 0 49 #[215, 258, 291, 334, 357, 390, 413, 456, 489, 522, 555, 578, 601, 644, 687, 730, 773, 816, 849, 882, 915, 948, 981, 1004, 1037, 1070, 1093, 1106, 1139, 1162, 1185, 1218, 1241, 1274, 1297, 1330, 1343, 1356, 1389, 1422, 1465, 1508, 1571, 1594, 1627, 1670, 1683, 1696, 1709, 1732], 215) := by decide +kernel
theorem dL_law_248 : decode cL_law 248 = .ok (.aload_n 1, 1) := by decide +kernel
theorem dL_law_249 : decode cL_law 249 = .ok (.aload_n 0, 1) := by decide +kernel
theorem dL_law_250 : decode cL_law 250 = .ok (.iload_n 3, 1) := by decide +kernel
theorem dL_law_251 : decode cL_law 251 = .ok (.iconst 1, 1) := by decide +kernel
theorem dL_law_252 : decode cL_law 252 = .ok (.iadd, 1) := by decide +kernel
theorem dL_law_253 : decode cL_law 253 = .ok (.iaload, 1) := by decide +kernel
theorem dL_law_254 : decode cL_law 254 = .ok (.aload_n 0, 1) := by decide +kernel
theorem dL_law_255 : decode cL_law 255 = .ok (.iload_n 3, 1) := by decide +kernel
theorem dL_law_256 : decode cL_law 256 = .ok (.iconst 2, 1) := by decide +kernel
theorem dL_law_257 : decode cL_law 257 = .ok (.iadd, 1) := by decide +kernel
theorem dL_law_258 : decode cL_law 258 = .ok (.iaload, 1) := by decide +kernel
theorem dL_law_259 : decode cL_law 259 = .ok (.aload_n 0, 1) := by decide +kernel
theorem dL_law_260 : decode cL_law 260 = .ok (.iload_n 3, 1) := by decide +kernel
theorem dL_law_261 : decode cL_law 261 = .ok (.iconst 3, 1) := by decide +kernel
theorem dL_law_262 : decode cL_law 262 = .ok (.iadd, 1) := by decide +kernel
theorem dL_law_263 : decode cL_law 263 = .ok (.iaload, 1) := by decide +kernel
theorem dL_law_264 : decode cL_law 264 = .ok (.invokevirtual 13, 3) := by decide +kernel
theorem dL_law_267 : decode cL_law 267 = .ok (.aload_n 2, 1) := by decide +kernel
theorem dL_law_268 : decode cL_law 268 = .ok (.aload_n 0, 1) := by decide +kernel
theorem dL_law_269 : decode cL_law 269 = .ok (.iload_n 3, 1) := by decide +kernel
theorem dL_law_270 : decode cL_law 270 = .ok (.iconst 1, 1) := by decide +kernel
theorem dL_law_271 : decode cL_law 271 = .ok (.iadd, 1) := by decide +kernel
theorem dL_law_272 : decode cL_law 272 = .ok (.iaload, 1) := by decide +kernel
theorem dL_law_273 : decode cL_law 273 = .ok (.aload_n 0, 1) := by decide +kernel
theorem dL_law_274 : decode cL_law 274 = .ok (.iload_n 3, 1) := by decide +kernel
theorem dL_law_275 : decode cL_law 275 = .ok (.iconst 2, 1) := by decide +kernel
