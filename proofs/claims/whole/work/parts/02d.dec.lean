theorem dX6_holds_4 : decode cX6_holds 4 = .ok (.iand, 1) := by decide +kernel
theorem dX6_holds_5 : decode cX6_holds 5 = .ok (.iconst 1, 1) := by decide +kernel
theorem dX6_holds_6 : decode cX6_holds 6 = .ok (.if_icmp .ne 7, 3) := by decide +kernel
theorem dX6_holds_9 : decode cX6_holds 9 = .ok (.iconst 1, 1) := by decide +kernel
theorem dX6_holds_10 : decode cX6_holds 10 = .ok (.goto 4, 3) := by decide +kernel
theorem dX6_holds_13 : decode cX6_holds 13 = .ok (.iconst 0, 1) := by decide +kernel
theorem dX6_holds_14 : decode cX6_holds 14 = .ok (.ireturn, 1) := by decide +kernel
theorem dX7_init_0 : decode cX7_init 0 = .ok (.aload_n 0, 1) := by decide +kernel
theorem dX7_init_1 : decode cX7_init 1 = .ok (.invokespecial 1, 3) := by decide +kernel
theorem dX7_init_4 : decode cX7_init 4 = .ok (.aload_n 0, 1) := by decide +kernel
theorem dX7_init_5 : decode cX7_init 5 = .ok (.bipush 73, 2) := by decide +kernel
theorem dX7_init_7 : decode cX7_init 7 = .ok (.newarray .int, 2) := by decide +kernel
theorem dX7_init_9 : decode cX7_init 9 = .ok (.putfield 9, 3) := by decide +kernel
theorem dX7_init_12 : decode cX7_init 12 = .ok (.aload_n 0, 1) := by decide +kernel
theorem dX7_init_13 : decode cX7_init 13 = .ok (.bipush 73, 2) := by decide +kernel
theorem dX7_init_15 : decode cX7_init 15 = .ok (.newarray .int, 2) := by decide +kernel
theorem dX7_init_17 : decode cX7_init 17 = .ok (.putfield 13, 3) := by decide +kernel
theorem dX7_init_20 : decode cX7_init 20 = .ok (.aload_n 0, 1) := by decide +kernel
theorem dX7_init_21 : decode cX7_init 21 = .ok (.bipush 73, 2) := by decide +kernel
theorem dX7_init_23 : decode cX7_init 23 = .ok (.newarray .int, 2) := by decide +kernel
theorem dX7_init_25 : decode cX7_init 25 = .ok (.putfield 16, 3) := by decide +kernel
theorem dX7_init_28 : decode cX7_init 28 = .ok (.aload_n 0, 1) := by decide +kernel
theorem dX7_init_29 : decode cX7_init 29 = .ok (.bipush 8, 2) := by decide +kernel
theorem dX7_init_31 : decode cX7_init 31 = .ok (.newarray .int, 2) := by decide +kernel
theorem dX7_init_33 : decode cX7_init 33 = .ok (.putfield 19, 3) := by decide +kernel
theorem dX7_init_36 : decode cX7_init 36 = .ok (.aload_n 0, 1) := by decide +kernel
theorem dX7_init_37 : decode cX7_init 37 = .ok (.sipush 1001, 3) := by decide +kernel
theorem dX7_init_40 : decode cX7_init 40 = .ok (.newarray .boolean, 2) := by decide +kernel
theorem dX7_init_42 : decode cX7_init 42 = .ok (.putfield 22, 3) := by decide +kernel
theorem dX7_init_45 : decode cX7_init 45 = .ok (.aload_n 0, 1) := by decide +kernel
theorem dX7_init_46 : decode cX7_init 46 = .ok (.bipush 120, 2) := by decide +kernel
theorem dX7_init_48 : decode cX7_init 48 = .ok (.newarray .int, 2) := by decide +kernel
theorem dX7_init_50 : decode cX7_init 50 = .ok (.putfield 26, 3) := by decide +kernel
theorem dX7_init_53 : decode cX7_init 53 = .ok (.aload_n 0, 1) := by decide +kernel
theorem dX7_init_54 : decode cX7_init 54 = .ok (.bipush 7, 2) := by decide +kernel
theorem dX7_init_56 : decode cX7_init 56 = .ok (.anewarray 29, 3) := by decide +kernel
theorem dX7_init_59 : decode cX7_init 59 = .ok (.dup, 1) := by decide +kernel
theorem dX7_init_60 : decode cX7_init 60 = .ok (.iconst 0, 1) := by decide +kernel
theorem dX7_init_61 : decode cX7_init 61 = .ok (.ldc 31, 2) := by decide +kernel
theorem dX7_init_63 : decode cX7_init 63 = .ok (.aastore, 1) := by decide +kernel
theorem dX7_init_64 : decode cX7_init 64 = .ok (.dup, 1) := by decide +kernel
theorem dX7_init_65 : decode cX7_init 65 = .ok (.iconst 1, 1) := by decide +kernel
theorem dX7_init_66 : decode cX7_init 66 = .ok (.ldc 33, 2) := by decide +kernel
theorem dX7_init_68 : decode cX7_init 68 = .ok (.aastore, 1) := by decide +kernel
theorem dX7_init_69 : decode cX7_init 69 = .ok (.dup, 1) := by decide +kernel
theorem dX7_init_70 : decode cX7_init 70 = .ok (.iconst 2, 1) := by decide +kernel
theorem dX7_init_71 : decode cX7_init 71 = .ok (.ldc 35, 2) := by decide +kernel
theorem dX7_init_73 : decode cX7_init 73 = .ok (.aastore, 1) := by decide +kernel
theorem dX7_init_74 : decode cX7_init 74 = .ok (.dup, 1) := by decide +kernel
theorem dX7_init_75 : decode cX7_init 75 = .ok (.iconst 3, 1) := by decide +kernel
theorem dX7_init_76 : decode cX7_init 76 = .ok (.ldc 37, 2) := by decide +kernel
theorem dX7_init_78 : decode cX7_init 78 = .ok (.aastore, 1) := by decide +kernel
theorem dX7_init_79 : decode cX7_init 79 = .ok (.dup, 1) := by decide +kernel
theorem dX7_init_80 : decode cX7_init 80 = .ok (.iconst 4, 1) := by decide +kernel
theorem dX7_init_81 : decode cX7_init 81 = .ok (.ldc 39, 2) := by decide +kernel
theorem dX7_init_83 : decode cX7_init 83 = .ok (.aastore, 1) := by decide +kernel
theorem dX7_init_84 : decode cX7_init 84 = .ok (.dup, 1) := by decide +kernel
theorem dX7_init_85 : decode cX7_init 85 = .ok (.iconst 5, 1) := by decide +kernel
theorem dX7_init_86 : decode cX7_init 86 = .ok (.ldc 41, 2) := by decide +kernel
theorem dX7_init_88 : decode cX7_init 88 = .ok (.aastore, 1) := by decide +kernel
theorem dX7_init_89 : decode cX7_init 89 = .ok (.dup, 1) := by decide +kernel
theorem dX7_init_90 : decode cX7_init 90 = .ok (.bipush 6, 2) := by decide +kernel
theorem dX7_init_92 : decode cX7_init 92 = .ok (.ldc 43, 2) := by decide +kernel
theorem dX7_init_94 : decode cX7_init 94 = .ok (.aastore, 1) := by decide +kernel
theorem dX7_init_95 : decode cX7_init 95 = .ok (.putfield 45, 3) := by decide +kernel
theorem dX7_init_98 : decode cX7_init 98 = .ok (.aload_n 0, 1) := by decide +kernel
theorem dX7_init_99 : decode cX7_init 99 = .ok (.sipush 600, 3) := by decide +kernel
theorem dX7_init_102 : decode cX7_init 102 = .ok (.newarray .int, 2) := by decide +kernel
theorem dX7_init_104 : decode cX7_init 104 = .ok (.putfield 49, 3) := by decide +kernel
theorem dX7_init_107 : decode cX7_init 107 = .ok (.aload_n 0, 1) := by decide +kernel
theorem dX7_init_108 : decode cX7_init 108 = .ok (.bipush 10, 2) := by decide +kernel
theorem dX7_init_110 : decode cX7_init 110 = .ok (.newarray .int, 2) := by decide +kernel
theorem dX7_init_112 : decode cX7_init 112 = .ok (.putfield 52, 3) := by decide +kernel
theorem dX7_init_115 : decode cX7_init 115 = .ok (.aload_n 0, 1) := by decide +kernel
theorem dX7_init_116 : decode cX7_init 116 = .ok (.iconst 4, 1) := by decide +kernel
theorem dX7_init_117 : decode cX7_init 117 = .ok (.newarray .int, 2) := by decide +kernel
theorem dX7_init_119 : decode cX7_init 119 = .ok (.putfield 55, 3) := by decide +kernel
theorem dX7_init_122 : decode cX7_init 122 = .ok (.aload_n 0, 1) := by decide +kernel
theorem dX7_init_123 : decode cX7_init 123 = .ok (.iconst 4, 1) := by decide +kernel
theorem dX7_init_124 : decode cX7_init 124 = .ok (.newarray .int, 2) := by decide +kernel
theorem dX7_init_126 : decode cX7_init 126 = .ok (.putfield 58, 3) := by decide +kernel
theorem dX7_init_129 : decode cX7_init 129 = .ok (.aload_n 0, 1) := by decide +kernel
theorem dX7_init_130 : decode cX7_init 130 = .ok (.sipush 160, 3) := by decide +kernel
theorem dX7_init_133 : decode cX7_init 133 = .ok (.newarray .int, 2) := by decide +kernel
theorem dX7_init_135 : decode cX7_init 135 = .ok (.putfield 61, 3) := by decide +kernel
theorem dX7_init_138 : decode cX7_init 138 = .ok (.aload_n 0, 1) := by decide +kernel
theorem dX7_init_139 : decode cX7_init 139 = .ok (.bipush 40, 2) := by decide +kernel
theorem dX7_init_141 : decode cX7_init 141 = .ok (.newarray .int, 2) := by decide +kernel
theorem dX7_init_143 : decode cX7_init 143 = .ok (.putfield 64, 3) := by decide +kernel
theorem dX7_init_146 : decode cX7_init 146 = .ok (.aload_n 0, 1) := by decide +kernel
theorem dX7_init_147 : decode cX7_init 147 = .ok (.getfield 9, 3) := by decide +kernel
theorem dX7_init_150 : decode cX7_init 150 = .ok (.iconst 2, 1) := by decide +kernel
theorem dX7_init_151 : decode cX7_init 151 = .ok (.iconst 1, 1) := by decide +kernel
theorem dX7_init_152 : decode cX7_init 152 = .ok (.iastore, 1) := by decide +kernel
theorem dX7_init_153 : decode cX7_init 153 = .ok (.iconst 0, 1) := by decide +kernel
theorem dX7_init_154 : decode cX7_init 154 = .ok (.istore_n 1, 1) := by decide +kernel
theorem dX7_init_155 : decode cX7_init 155 = .ok (.iload_n 1, 1) := by decide +kernel
theorem dX7_init_156 : decode cX7_init 156 = .ok (.bipush 10, 2) := by decide +kernel
theorem dX7_init_158 : decode cX7_init 158 = .ok (.if_icmp .ge 18, 3) := by decide +kernel
theorem dX7_init_161 : decode cX7_init 161 = .ok (.aload_n 0, 1) := by decide +kernel
theorem dX7_init_162 : decode cX7_init 162 = .ok (.getfield 9, 3) := by decide +kernel
theorem dX7_init_165 : decode cX7_init 165 = .ok (.iconst 3, 1) := by decide +kernel
theorem dX7_init_166 : decode cX7_init 166 = .ok (.iload_n 1, 1) := by decide +kernel
theorem dX7_init_167 : decode cX7_init 167 = .ok (.iadd, 1) := by decide +kernel
theorem dX7_init_168 : decode cX7_init 168 = .ok (.iconst (-1), 1) := by decide +kernel
theorem dX7_init_169 : decode cX7_init 169 = .ok (.iastore, 1) := by decide +kernel
theorem dX7_init_170 : decode cX7_init 170 = .ok (.iinc 1 1, 3) := by decide +kernel
theorem dX7_init_173 : decode cX7_init 173 = .ok (.goto (-18), 3) := by decide +kernel
theorem dX7_init_176 : decode cX7_init 176 = .ok (.return_, 1) := by decide +kernel
theorem dX7_finding_0 : decode cX7_finding 0 = .ok (.aload_n 0, 1) := by decide +kernel
theorem dX7_finding_1 : decode cX7_finding 1 = .ok (.getfield 19, 3) := by decide +kernel
theorem dX7_finding_4 : decode cX7_finding 4 = .ok (.ldc 67, 2) := by decide +kernel
theorem dX7_finding_6 : decode cX7_finding 6 = .ok (.iload_n 1, 1) := by decide +kernel
theorem dX7_finding_7 : decode cX7_finding 7 = .ok (.isub, 1) := by decide +kernel
theorem dX7_finding_8 : decode cX7_finding 8 = .ok (.iconst 1, 1) := by decide +kernel
theorem dX7_finding_9 : decode cX7_finding 9 = .ok (.iadd, 1) := by decide +kernel
theorem dX7_finding_10 : decode cX7_finding 10 = .ok (.dup2, 1) := by decide +kernel
theorem dX7_finding_11 : decode cX7_finding 11 = .ok (.iaload, 1) := by decide +kernel
theorem dX7_finding_12 : decode cX7_finding 12 = .ok (.iconst 1, 1) := by decide +kernel
theorem dX7_finding_13 : decode cX7_finding 13 = .ok (.iadd, 1) := by decide +kernel
theorem dX7_finding_14 : decode cX7_finding 14 = .ok (.iastore, 1) := by decide +kernel
theorem dX7_finding_15 : decode cX7_finding 15 = .ok (.aload_n 0, 1) := by decide +kernel
theorem dX7_finding_16 : decode cX7_finding 16 = .ok (.getfield 19, 3) := by decide +kernel
theorem dX7_finding_19 : decode cX7_finding 19 = .ok (.iconst 0, 1) := by decide +kernel
theorem dX7_finding_20 : decode cX7_finding 20 = .ok (.dup2, 1) := by decide +kernel
theorem dX7_finding_21 : decode cX7_finding 21 = .ok (.iaload, 1) := by decide +kernel
theorem dX7_finding_22 : decode cX7_finding 22 = .ok (.iconst 1, 1) := by decide +kernel
theorem dX7_finding_23 : decode cX7_finding 23 = .ok (.iadd, 1) := by decide +kernel
theorem dX7_finding_24 : decode cX7_finding 24 = .ok (.iastore, 1) := by decide +kernel
theorem dX7_finding_25 : decode cX7_finding 25 = .ok (.iload_n 1, 1) := by decide +kernel
theorem dX7_finding_26 : decode cX7_finding 26 = .ok (.ireturn, 1) := by decide +kernel
theorem dX7_within_0 : decode cX7_within 0 = .ok (.iload_n 0, 1) := by decide +kernel
theorem dX7_within_1 : decode cX7_within 1 = .ok (.iload_n 1, 1) := by decide +kernel
theorem dX7_within_2 : decode cX7_within 2 = .ok (.if_icmp .lt 12, 3) := by decide +kernel
theorem dX7_within_5 : decode cX7_within 5 = .ok (.iload_n 0, 1) := by decide +kernel
theorem dX7_within_6 : decode cX7_within 6 = .ok (.iload_n 2, 1) := by decide +kernel
theorem dX7_within_7 : decode cX7_within 7 = .ok (.if_icmp .gt 7, 3) := by decide +kernel
theorem dX7_within_10 : decode cX7_within 10 = .ok (.iconst 1, 1) := by decide +kernel
theorem dX7_within_11 : decode cX7_within 11 = .ok (.goto 4, 3) := by decide +kernel
theorem dX7_within_14 : decode cX7_within 14 = .ok (.iconst 0, 1) := by decide +kernel
theorem dX7_within_15 : decode cX7_within 15 = .ok (.ireturn, 1) := by decide +kernel
theorem dX7_become_0 : decode cX7_become 0 = .ok (.aload_n 0, 1) := by decide +kernel
theorem dX7_become_1 : decode cX7_become 1 = .ok (.getfield 9, 3) := by decide +kernel
theorem dX7_become_4 : decode cX7_become 4 = .ok (.iload_n 1, 1) := by decide +kernel
theorem dX7_become_5 : decode cX7_become 5 = .ok (.iaload, 1) := by decide +kernel
theorem dX7_become_6 : decode cX7_become 6 = .ok (.istore_n 3, 1) := by decide +kernel
theorem dX7_become_7 : decode cX7_become 7 = .ok (.aload_n 0, 1) := by decide +kernel
theorem dX7_become_8 : decode cX7_become 8 = .ok (.getfield 9, 3) := by decide +kernel
theorem dX7_become_11 : decode cX7_become 11 = .ok (.iload_n 1, 1) := by decide +kernel
theorem dX7_become_12 : decode cX7_become 12 = .ok (.iload_n 2, 1) := by decide +kernel
theorem dX7_become_13 : decode cX7_become 13 = .ok (.iastore, 1) := by decide +kernel
theorem dX7_become_14 : decode cX7_become 14 = .ok (.iload_n 3, 1) := by decide +kernel
theorem dX7_become_15 : decode cX7_become 15 = .ok (.ireturn, 1) := by decide +kernel
theorem dX7_copyRow_0 : decode cX7_copyRow 0 = .ok (.iconst 0, 1) := by decide +kernel
theorem dX7_copyRow_1 : decode cX7_copyRow 1 = .ok (.istore_n 2, 1) := by decide +kernel
theorem dX7_copyRow_2 : decode cX7_copyRow 2 = .ok (.iload_n 2, 1) := by decide +kernel
theorem dX7_copyRow_3 : decode cX7_copyRow 3 = .ok (.bipush 73, 2) := by decide +kernel
theorem dX7_copyRow_5 : decode cX7_copyRow 5 = .ok (.if_icmp .ge 15, 3) := by decide +kernel
theorem dX7_copyRow_8 : decode cX7_copyRow 8 = .ok (.aload_n 1, 1) := by decide +kernel
theorem dX7_copyRow_9 : decode cX7_copyRow 9 = .ok (.iload_n 2, 1) := by decide +kernel
theorem dX7_copyRow_10 : decode cX7_copyRow 10 = .ok (.aload_n 0, 1) := by decide +kernel
theorem dX7_copyRow_11 : decode cX7_copyRow 11 = .ok (.iload_n 2, 1) := by decide +kernel
theorem dX7_copyRow_12 : decode cX7_copyRow 12 = .ok (.iaload, 1) := by decide +kernel
theorem dX7_copyRow_13 : decode cX7_copyRow 13 = .ok (.iastore, 1) := by decide +kernel
theorem dX7_copyRow_14 : decode cX7_copyRow 14 = .ok (.iinc 2 1, 3) := by decide +kernel
theorem dX7_copyRow_17 : decode cX7_copyRow 17 = .ok (.goto (-15), 3) := by decide +kernel
theorem dX7_copyRow_20 : decode cX7_copyRow 20 = .ok (.return_, 1) := by decide +kernel
theorem dX7_putBack_0 : decode cX7_putBack 0 = .ok (.aload_n 0, 1) := by decide +kernel
theorem dX7_putBack_1 : decode cX7_putBack 1 = .ok (.getfield 16, 3) := by decide +kernel
theorem dX7_putBack_4 : decode cX7_putBack 4 = .ok (.aload_n 0, 1) := by decide +kernel
theorem dX7_putBack_5 : decode cX7_putBack 5 = .ok (.getfield 9, 3) := by decide +kernel
theorem dX7_putBack_8 : decode cX7_putBack 8 = .ok (.invokestatic 68, 3) := by decide +kernel
theorem dX7_putBack_11 : decode cX7_putBack 11 = .ok (.iload_n 1, 1) := by decide +kernel
theorem dX7_putBack_12 : decode cX7_putBack 12 = .ok (.ireturn, 1) := by decide +kernel
theorem dX7_isCoin_0 : decode cX7_isCoin 0 = .ok (.iload_n 1, 1) := by decide +kernel
theorem dX7_isCoin_1 : decode cX7_isCoin 1 = .ok (.iconst 0, 1) := by decide +kernel
theorem dX7_isCoin_2 : decode cX7_isCoin 2 = .ok (.aload_n 0, 1) := by decide +kernel
theorem dX7_isCoin_3 : decode cX7_isCoin 3 = .ok (.getfield 9, 3) := by decide +kernel
theorem dX7_isCoin_6 : decode cX7_isCoin 6 = .ok (.iconst 1, 1) := by decide +kernel
theorem dX7_isCoin_7 : decode cX7_isCoin 7 = .ok (.iaload, 1) := by decide +kernel
theorem dX7_isCoin_8 : decode cX7_isCoin 8 = .ok (.iconst 1, 1) := by decide +kernel
theorem dX7_isCoin_9 : decode cX7_isCoin 9 = .ok (.isub, 1) := by decide +kernel
theorem dX7_isCoin_10 : decode cX7_isCoin 10 = .ok (.invokestatic 72, 3) := by decide +kernel
theorem dX7_isCoin_13 : decode cX7_isCoin 13 = .ok (.ireturn, 1) := by decide +kernel
theorem dX7_isPurse_0 : decode cX7_isPurse 0 = .ok (.iload_n 0, 1) := by decide +kernel
theorem dX7_isPurse_1 : decode cX7_isPurse 1 = .ok (.iconst 0, 1) := by decide +kernel
theorem dX7_isPurse_2 : decode cX7_isPurse 2 = .ok (.iconst 3, 1) := by decide +kernel
theorem dX7_isPurse_3 : decode cX7_isPurse 3 = .ok (.invokestatic 72, 3) := by decide +kernel
theorem dX7_isPurse_6 : decode cX7_isPurse 6 = .ok (.ireturn, 1) := by decide +kernel
theorem dX7_areTwo_0 : decode cX7_areTwo 0 = .ok (.iload_n 0, 1) := by decide +kernel
theorem dX7_areTwo_1 : decode cX7_areTwo 1 = .ok (.invokestatic 76, 3) := by decide +kernel
theorem dX7_areTwo_4 : decode cX7_areTwo 4 = .ok (.ifCond .eq 19, 3) := by decide +kernel
theorem dX7_areTwo_7 : decode cX7_areTwo 7 = .ok (.iload_n 1, 1) := by decide +kernel
theorem dX7_areTwo_8 : decode cX7_areTwo 8 = .ok (.invokestatic 76, 3) := by decide +kernel
theorem dX7_areTwo_11 : decode cX7_areTwo 11 = .ok (.ifCond .eq 12, 3) := by decide +kernel
theorem dX7_areTwo_14 : decode cX7_areTwo 14 = .ok (.iload_n 0, 1) := by decide +kernel
theorem dX7_areTwo_15 : decode cX7_areTwo 15 = .ok (.iload_n 1, 1) := by decide +kernel
theorem dX7_areTwo_16 : decode cX7_areTwo 16 = .ok (.if_icmp .eq 7, 3) := by decide +kernel
theorem dX7_areTwo_19 : decode cX7_areTwo 19 = .ok (.iconst 1, 1) := by decide +kernel
theorem dX7_areTwo_20 : decode cX7_areTwo 20 = .ok (.goto 4, 3) := by decide +kernel
theorem dX7_areTwo_23 : decode cX7_areTwo 23 = .ok (.iconst 0, 1) := by decide +kernel
theorem dX7_areTwo_24 : decode cX7_areTwo 24 = .ok (.ireturn, 1) := by decide +kernel
theorem dX7_isSet_0 : decode cX7_isSet 0 = .ok (.iload_n 1, 1) := by decide +kernel
theorem dX7_isSet_1 : decode cX7_isSet 1 = .ok (.iconst 0, 1) := by decide +kernel
theorem dX7_isSet_2 : decode cX7_isSet 2 = .ok (.iconst 1, 1) := by decide +kernel
theorem dX7_isSet_3 : decode cX7_isSet 3 = .ok (.aload_n 0, 1) := by decide +kernel
theorem dX7_isSet_4 : decode cX7_isSet 4 = .ok (.getfield 9, 3) := by decide +kernel
theorem dX7_isSet_7 : decode cX7_isSet 7 = .ok (.iconst 1, 1) := by decide +kernel
theorem dX7_isSet_8 : decode cX7_isSet 8 = .ok (.iaload, 1) := by decide +kernel
theorem dX7_isSet_9 : decode cX7_isSet 9 = .ok (.ishl, 1) := by decide +kernel
theorem dX7_isSet_10 : decode cX7_isSet 10 = .ok (.iconst 1, 1) := by decide +kernel
theorem dX7_isSet_11 : decode cX7_isSet 11 = .ok (.isub, 1) := by decide +kernel
theorem dX7_isSet_12 : decode cX7_isSet 12 = .ok (.invokestatic 72, 3) := by decide +kernel
theorem dX7_isSet_15 : decode cX7_isSet 15 = .ok (.ireturn, 1) := by decide +kernel
theorem dX7_at_0 : decode cX7_at 0 = .ok (.bipush 13, 2) := by decide +kernel
theorem dX7_at_2 : decode cX7_at 2 = .ok (.bipush 6, 2) := by decide +kernel
theorem dX7_at_4 : decode cX7_at 4 = .ok (.iload_n 0, 1) := by decide +kernel
theorem dX7_at_5 : decode cX7_at 5 = .ok (.imul, 1) := by decide +kernel
theorem dX7_at_6 : decode cX7_at 6 = .ok (.iadd, 1) := by decide +kernel
theorem dX7_at_7 : decode cX7_at 7 = .ok (.iload_n 1, 1) := by decide +kernel
theorem dX7_at_8 : decode cX7_at 8 = .ok (.iadd, 1) := by decide +kernel
theorem dX7_at_9 : decode cX7_at 9 = .ok (.ireturn, 1) := by decide +kernel
theorem dX7_coinIs_0 : decode cX7_coinIs 0 = .ok (.aload_n 0, 1) := by decide +kernel
theorem dX7_coinIs_1 : decode cX7_coinIs 1 = .ok (.getfield 9, 3) := by decide +kernel
theorem dX7_coinIs_4 : decode cX7_coinIs 4 = .ok (.iload_n 1, 1) := by decide +kernel
theorem dX7_coinIs_5 : decode cX7_coinIs 5 = .ok (.iload_n 2, 1) := by decide +kernel
theorem dX7_coinIs_6 : decode cX7_coinIs 6 = .ok (.invokestatic 80, 3) := by decide +kernel
theorem dX7_coinIs_9 : decode cX7_coinIs 9 = .ok (.iaload, 1) := by decide +kernel
theorem dX7_coinIs_10 : decode cX7_coinIs 10 = .ok (.ireturn, 1) := by decide +kernel
theorem dX7_isKind_0 : decode cX7_isKind 0 = .ok (.iload_n 0, 1) := by decide +kernel
theorem dX7_isKind_1 : decode cX7_isKind 1 = .ok (.iconst 0, 1) := by decide +kernel
theorem dX7_isKind_2 : decode cX7_isKind 2 = .ok (.bipush 6, 2) := by decide +kernel
theorem dX7_isKind_4 : decode cX7_isKind 4 = .ok (.invokestatic 72, 3) := by decide +kernel
theorem dX7_isKind_7 : decode cX7_isKind 7 = .ok (.ireturn, 1) := by decide +kernel
theorem dX7_struck_0 : decode cX7_struck 0 = .ok (.aload_n 0, 1) := by decide +kernel
theorem dX7_struck_1 : decode cX7_struck 1 = .ok (.getfield 9, 3) := by decide +kernel
theorem dX7_struck_4 : decode cX7_struck 4 = .ok (.iconst 1, 1) := by decide +kernel
theorem dX7_struck_5 : decode cX7_struck 5 = .ok (.iaload, 1) := by decide +kernel
theorem dX7_struck_6 : decode cX7_struck 6 = .ok (.istore 6, 2) := by decide +kernel
theorem dX7_struck_8 : decode cX7_struck 8 = .ok (.aload_n 0, 1) := by decide +kernel
theorem dX7_struck_9 : decode cX7_struck 9 = .ok (.getfield 9, 3) := by decide +kernel
theorem dX7_struck_12 : decode cX7_struck 12 = .ok (.iload 6, 2) := by decide +kernel
theorem dX7_struck_14 : decode cX7_struck 14 = .ok (.iconst 0, 1) := by decide +kernel
theorem dX7_struck_15 : decode cX7_struck 15 = .ok (.invokestatic 80, 3) := by decide +kernel
theorem dX7_struck_18 : decode cX7_struck 18 = .ok (.iload_n 1, 1) := by decide +kernel
theorem dX7_struck_19 : decode cX7_struck 19 = .ok (.iastore, 1) := by decide +kernel
theorem dX7_struck_20 : decode cX7_struck 20 = .ok (.aload_n 0, 1) := by decide +kernel
theorem dX7_struck_21 : decode cX7_struck 21 = .ok (.getfield 9, 3) := by decide +kernel
theorem dX7_struck_24 : decode cX7_struck 24 = .ok (.iload 6, 2) := by decide +kernel
theorem dX7_struck_26 : decode cX7_struck 26 = .ok (.iconst 1, 1) := by decide +kernel
theorem dX7_struck_27 : decode cX7_struck 27 = .ok (.invokestatic 80, 3) := by decide +kernel
theorem dX7_struck_30 : decode cX7_struck 30 = .ok (.iload 4, 2) := by decide +kernel
theorem dX7_struck_32 : decode cX7_struck 32 = .ok (.iastore, 1) := by decide +kernel
theorem dX7_struck_33 : decode cX7_struck 33 = .ok (.aload_n 0, 1) := by decide +kernel
theorem dX7_struck_34 : decode cX7_struck 34 = .ok (.getfield 9, 3) := by decide +kernel
theorem dX7_struck_37 : decode cX7_struck 37 = .ok (.iload 6, 2) := by decide +kernel
theorem dX7_struck_39 : decode cX7_struck 39 = .ok (.iconst 2, 1) := by decide +kernel
theorem dX7_struck_40 : decode cX7_struck 40 = .ok (.invokestatic 80, 3) := by decide +kernel
theorem dX7_struck_43 : decode cX7_struck 43 = .ok (.iload_n 2, 1) := by decide +kernel
theorem dX7_struck_44 : decode cX7_struck 44 = .ok (.iastore, 1) := by decide +kernel
theorem dX7_struck_45 : decode cX7_struck 45 = .ok (.aload_n 0, 1) := by decide +kernel
theorem dX7_struck_46 : decode cX7_struck 46 = .ok (.getfield 9, 3) := by decide +kernel
theorem dX7_struck_49 : decode cX7_struck 49 = .ok (.iload 6, 2) := by decide +kernel
theorem dX7_struck_51 : decode cX7_struck 51 = .ok (.iconst 3, 1) := by decide +kernel
theorem dX7_struck_52 : decode cX7_struck 52 = .ok (.invokestatic 80, 3) := by decide +kernel
theorem dX7_struck_55 : decode cX7_struck 55 = .ok (.iload_n 3, 1) := by decide +kernel
theorem dX7_struck_56 : decode cX7_struck 56 = .ok (.iastore, 1) := by decide +kernel
theorem dX7_struck_57 : decode cX7_struck 57 = .ok (.aload_n 0, 1) := by decide +kernel
theorem dX7_struck_58 : decode cX7_struck 58 = .ok (.getfield 9, 3) := by decide +kernel
theorem dX7_struck_61 : decode cX7_struck 61 = .ok (.iload 6, 2) := by decide +kernel
theorem dX7_struck_63 : decode cX7_struck 63 = .ok (.iconst 4, 1) := by decide +kernel
theorem dX7_struck_64 : decode cX7_struck 64 = .ok (.invokestatic 80, 3) := by decide +kernel
theorem dX7_struck_67 : decode cX7_struck 67 = .ok (.iload 5, 2) := by decide +kernel
theorem dX7_struck_69 : decode cX7_struck 69 = .ok (.iastore, 1) := by decide +kernel
theorem dX7_struck_70 : decode cX7_struck 70 = .ok (.aload_n 0, 1) := by decide +kernel
theorem dX7_struck_71 : decode cX7_struck 71 = .ok (.getfield 9, 3) := by decide +kernel
theorem dX7_struck_74 : decode cX7_struck 74 = .ok (.iload 6, 2) := by decide +kernel
theorem dX7_struck_76 : decode cX7_struck 76 = .ok (.iconst 5, 1) := by decide +kernel
theorem dX7_struck_77 : decode cX7_struck 77 = .ok (.invokestatic 80, 3) := by decide +kernel
theorem dX7_struck_80 : decode cX7_struck 80 = .ok (.iconst 0, 1) := by decide +kernel
theorem dX7_struck_81 : decode cX7_struck 81 = .ok (.iastore, 1) := by decide +kernel
theorem dX7_struck_82 : decode cX7_struck 82 = .ok (.aload_n 0, 1) := by decide +kernel
theorem dX7_struck_83 : decode cX7_struck 83 = .ok (.getfield 9, 3) := by decide +kernel
theorem dX7_struck_86 : decode cX7_struck 86 = .ok (.iconst 1, 1) := by decide +kernel
theorem dX7_struck_87 : decode cX7_struck 87 = .ok (.dup2, 1) := by decide +kernel
theorem dX7_struck_88 : decode cX7_struck 88 = .ok (.iaload, 1) := by decide +kernel
theorem dX7_struck_89 : decode cX7_struck 89 = .ok (.iconst 1, 1) := by decide +kernel
theorem dX7_struck_90 : decode cX7_struck 90 = .ok (.iadd, 1) := by decide +kernel
theorem dX7_struck_91 : decode cX7_struck 91 = .ok (.iastore, 1) := by decide +kernel
theorem dX7_struck_92 : decode cX7_struck 92 = .ok (.iload 6, 2) := by decide +kernel
theorem dX7_struck_94 : decode cX7_struck 94 = .ok (.ireturn, 1) := by decide +kernel
theorem dX7_coin_0 : decode cX7_coin 0 = .ok (.iload_n 1, 1) := by decide +kernel
theorem dX7_coin_1 : decode cX7_coin 1 = .ok (.invokestatic 84, 3) := by decide +kernel
theorem dX7_coin_4 : decode cX7_coin 4 = .ok (.ifCond .eq 23, 3) := by decide +kernel
theorem dX7_coin_7 : decode cX7_coin 7 = .ok (.iload_n 2, 1) := by decide +kernel
theorem dX7_coin_8 : decode cX7_coin 8 = .ok (.iconst 0, 1) := by decide +kernel
theorem dX7_coin_9 : decode cX7_coin 9 = .ok (.bipush 99, 2) := by decide +kernel
theorem dX7_coin_11 : decode cX7_coin 11 = .ok (.invokestatic 72, 3) := by decide +kernel
theorem dX7_coin_14 : decode cX7_coin 14 = .ok (.ifCond .eq 13, 3) := by decide +kernel
theorem dX7_coin_17 : decode cX7_coin 17 = .ok (.iload_n 3, 1) := by decide +kernel
theorem dX7_coin_18 : decode cX7_coin 18 = .ok (.iconst 0, 1) := by decide +kernel
theorem dX7_coin_19 : decode cX7_coin 19 = .ok (.bipush 99, 2) := by decide +kernel
theorem dX7_coin_21 : decode cX7_coin 21 = .ok (.invokestatic 72, 3) := by decide +kernel
theorem dX7_coin_24 : decode cX7_coin 24 = .ok (.ifCond .ne 10, 3) := by decide +kernel
theorem dX7_coin_27 : decode cX7_coin 27 = .ok (.aload_n 0, 1) := by decide +kernel
theorem dX7_coin_28 : decode cX7_coin 28 = .ok (.ldc 67, 2) := by decide +kernel
theorem dX7_coin_30 : decode cX7_coin 30 = .ok (.invokevirtual 87, 3) := by decide +kernel
theorem dX7_coin_33 : decode cX7_coin 33 = .ok (.ireturn, 1) := by decide +kernel
theorem dX7_coin_34 : decode cX7_coin 34 = .ok (.aload_n 0, 1) := by decide +kernel
theorem dX7_coin_35 : decode cX7_coin 35 = .ok (.getfield 9, 3) := by decide +kernel
theorem dX7_coin_38 : decode cX7_coin 38 = .ok (.iconst 1, 1) := by decide +kernel
theorem dX7_coin_39 : decode cX7_coin 39 = .ok (.iaload, 1) := by decide +kernel
theorem dX7_coin_40 : decode cX7_coin 40 = .ok (.bipush 10, 2) := by decide +kernel
theorem dX7_coin_42 : decode cX7_coin 42 = .ok (.if_icmp .ne 12, 3) := by decide +kernel
theorem dX7_coin_45 : decode cX7_coin 45 = .ok (.aload_n 0, 1) := by decide +kernel
theorem dX7_coin_46 : decode cX7_coin 46 = .ok (.ldc 91, 2) := by decide +kernel
theorem dX7_coin_48 : decode cX7_coin 48 = .ok (.invokevirtual 87, 3) := by decide +kernel
theorem dX7_coin_51 : decode cX7_coin 51 = .ok (.goto 12, 3) := by decide +kernel
theorem dX7_coin_54 : decode cX7_coin 54 = .ok (.aload_n 0, 1) := by decide +kernel
theorem dX7_coin_55 : decode cX7_coin 55 = .ok (.iload_n 1, 1) := by decide +kernel
theorem dX7_coin_56 : decode cX7_coin 56 = .ok (.iload_n 2, 1) := by decide +kernel
theorem dX7_coin_57 : decode cX7_coin 57 = .ok (.iload_n 3, 1) := by decide +kernel
theorem dX7_coin_58 : decode cX7_coin 58 = .ok (.iconst 0, 1) := by decide +kernel
theorem dX7_coin_59 : decode cX7_coin 59 = .ok (.iconst 0, 1) := by decide +kernel
theorem dX7_coin_60 : decode cX7_coin 60 = .ok (.invokevirtual 92, 3) := by decide +kernel
theorem dX7_coin_63 : decode cX7_coin 63 = .ok (.ireturn, 1) := by decide +kernel
theorem dX7_above_0 : decode cX7_above 0 = .ok (.iload_n 0, 1) := by decide +kernel
theorem dX7_above_1 : decode cX7_above 1 = .ok (.ifCond .ne 7, 3) := by decide +kernel
theorem dX7_above_4 : decode cX7_above 4 = .ok (.iconst (-1), 1) := by decide +kernel
theorem dX7_above_5 : decode cX7_above 5 = .ok (.goto 32, 3) := by decide +kernel
theorem dX7_above_8 : decode cX7_above 8 = .ok (.iload_n 0, 1) := by decide +kernel
theorem dX7_above_9 : decode cX7_above 9 = .ok (.iconst 3, 1) := by decide +kernel
theorem dX7_above_10 : decode cX7_above 10 = .ok (.if_icmp .ne 7, 3) := by decide +kernel
theorem dX7_above_13 : decode cX7_above 13 = .ok (.iconst 2, 1) := by decide +kernel
theorem dX7_above_14 : decode cX7_above 14 = .ok (.goto 23, 3) := by decide +kernel
theorem dX7_above_17 : decode cX7_above 17 = .ok (.iload_n 0, 1) := by decide +kernel
theorem dX7_above_18 : decode cX7_above 18 = .ok (.iconst 4, 1) := by decide +kernel
theorem dX7_above_19 : decode cX7_above 19 = .ok (.if_icmp .ne 7, 3) := by decide +kernel
theorem dX7_above_22 : decode cX7_above 22 = .ok (.iconst 1, 1) := by decide +kernel
theorem dX7_above_23 : decode cX7_above 23 = .ok (.goto 14, 3) := by decide +kernel
theorem dX7_above_26 : decode cX7_above 26 = .ok (.iload_n 0, 1) := by decide +kernel
theorem dX7_above_27 : decode cX7_above 27 = .ok (.bipush 6, 2) := by decide +kernel
theorem dX7_above_29 : decode cX7_above 29 = .ok (.if_icmp .ne 7, 3) := by decide +kernel
theorem dX7_above_32 : decode cX7_above 32 = .ok (.iconst 5, 1) := by decide +kernel
theorem dX7_above_33 : decode cX7_above 33 = .ok (.goto 4, 3) := by decide +kernel
theorem dX7_above_36 : decode cX7_above 36 = .ok (.iconst 0, 1) := by decide +kernel
theorem dX7_above_37 : decode cX7_above 37 = .ok (.ireturn, 1) := by decide +kernel
theorem dX7_isUnder_0 : decode cX7_isUnder 0 = .ok (.iload_n 0, 1) := by decide +kernel
theorem dX7_isUnder_1 : decode cX7_isUnder 1 = .ok (.istore_n 2, 1) := by decide +kernel
theorem dX7_isUnder_2 : decode cX7_isUnder 2 = .ok (.iload_n 2, 1) := by decide +kernel
theorem dX7_isUnder_3 : decode cX7_isUnder 3 = .ok (.ifCond .lt 16, 3) := by decide +kernel
theorem dX7_isUnder_6 : decode cX7_isUnder 6 = .ok (.iload_n 2, 1) := by decide +kernel
theorem dX7_isUnder_7 : decode cX7_isUnder 7 = .ok (.iload_n 1, 1) := by decide +kernel
theorem dX7_isUnder_8 : decode cX7_isUnder 8 = .ok (.if_icmp .eq 11, 3) := by decide +kernel
theorem dX7_isUnder_11 : decode cX7_isUnder 11 = .ok (.iload_n 2, 1) := by decide +kernel
theorem dX7_isUnder_12 : decode cX7_isUnder 12 = .ok (.invokestatic 96, 3) := by decide +kernel
theorem dX7_isUnder_15 : decode cX7_isUnder 15 = .ok (.istore_n 2, 1) := by decide +kernel
theorem dX7_isUnder_16 : decode cX7_isUnder 16 = .ok (.goto (-14), 3) := by decide +kernel
theorem dX7_isUnder_19 : decode cX7_isUnder 19 = .ok (.iload_n 2, 1) := by decide +kernel
theorem dX7_isUnder_20 : decode cX7_isUnder 20 = .ok (.ifCond .lt 7, 3) := by decide +kernel
theorem dX7_isUnder_23 : decode cX7_isUnder 23 = .ok (.iconst 1, 1) := by decide +kernel
theorem dX7_isUnder_24 : decode cX7_isUnder 24 = .ok (.goto 4, 3) := by decide +kernel
theorem dX7_isUnder_27 : decode cX7_isUnder 27 = .ok (.iconst 0, 1) := by decide +kernel
theorem dX7_isUnder_28 : decode cX7_isUnder 28 = .ok (.ireturn, 1) := by decide +kernel
theorem dX7_worthSo_0 : decode cX7_worthSo 0 = .ok (.iload_n 3, 1) := by decide +kernel
theorem dX7_worthSo_1 : decode cX7_worthSo 1 = .ok (.ifCond .ne 12, 3) := by decide +kernel
theorem dX7_worthSo_4 : decode cX7_worthSo 4 = .ok (.aload_n 0, 1) := by decide +kernel
theorem dX7_worthSo_5 : decode cX7_worthSo 5 = .ok (.iload_n 1, 1) := by decide +kernel
theorem dX7_worthSo_6 : decode cX7_worthSo 6 = .ok (.iconst 2, 1) := by decide +kernel
theorem dX7_worthSo_7 : decode cX7_worthSo 7 = .ok (.invokevirtual 99, 3) := by decide +kernel
theorem dX7_worthSo_10 : decode cX7_worthSo 10 = .ok (.goto 9, 3) := by decide +kernel
theorem dX7_worthSo_13 : decode cX7_worthSo 13 = .ok (.aload_n 0, 1) := by decide +kernel
theorem dX7_worthSo_14 : decode cX7_worthSo 14 = .ok (.iload_n 1, 1) := by decide +kernel
theorem dX7_worthSo_15 : decode cX7_worthSo 15 = .ok (.iconst 3, 1) := by decide +kernel
theorem dX7_worthSo_16 : decode cX7_worthSo 16 = .ok (.invokevirtual 99, 3) := by decide +kernel
theorem dX7_worthSo_19 : decode cX7_worthSo 19 = .ok (.istore 6, 2) := by decide +kernel
theorem dX7_worthSo_21 : decode cX7_worthSo 21 = .ok (.iload_n 2, 1) := by decide +kernel
theorem dX7_worthSo_22 : decode cX7_worthSo 22 = .ok (.tableswitch 90 1 6 #[38, 90, 43, 38, 50, 60], 38) := by decide +kernel
theorem dX7_worthSo_60 : decode cX7_worthSo 60 = .ok (.iload 6, 2) := by decide +kernel
theorem dX7_worthSo_62 : decode cX7_worthSo 62 = .ok (.iconst 1, 1) := by decide +kernel
theorem dX7_worthSo_63 : decode cX7_worthSo 63 = .ok (.iadd, 1) := by decide +kernel
theorem dX7_worthSo_64 : decode cX7_worthSo 64 = .ok (.ireturn, 1) := by decide +kernel
theorem dX7_worthSo_65 : decode cX7_worthSo 65 = .ok (.aload_n 0, 1) := by decide +kernel
theorem dX7_worthSo_66 : decode cX7_worthSo 66 = .ok (.iload_n 1, 1) := by decide +kernel
theorem dX7_worthSo_67 : decode cX7_worthSo 67 = .ok (.iconst 2, 1) := by decide +kernel
theorem dX7_worthSo_68 : decode cX7_worthSo 68 = .ok (.invokevirtual 99, 3) := by decide +kernel
theorem dX7_worthSo_71 : decode cX7_worthSo 71 = .ok (.ireturn, 1) := by decide +kernel
theorem dX7_worthSo_72 : decode cX7_worthSo 72 = .ok (.iconst 0, 1) := by decide +kernel
theorem dX7_worthSo_73 : decode cX7_worthSo 73 = .ok (.iload 6, 2) := by decide +kernel
theorem dX7_worthSo_75 : decode cX7_worthSo 75 = .ok (.iload 4, 2) := by decide +kernel
theorem dX7_worthSo_77 : decode cX7_worthSo 77 = .ok (.isub, 1) := by decide +kernel
theorem dX7_worthSo_78 : decode cX7_worthSo 78 = .ok (.invokestatic 102, 3) := by decide +kernel
theorem dX7_worthSo_81 : decode cX7_worthSo 81 = .ok (.ireturn, 1) := by decide +kernel
theorem dX7_worthSo_82 : decode cX7_worthSo 82 = .ok (.iload 5, 2) := by decide +kernel
theorem dX7_worthSo_84 : decode cX7_worthSo 84 = .ok (.iconst 3, 1) := by decide +kernel
theorem dX7_worthSo_85 : decode cX7_worthSo 85 = .ok (.if_icmp .ne 15, 3) := by decide +kernel
theorem dX7_worthSo_88 : decode cX7_worthSo 88 = .ok (.iconst 0, 1) := by decide +kernel
theorem dX7_worthSo_89 : decode cX7_worthSo 89 = .ok (.iload 6, 2) := by decide +kernel
theorem dX7_worthSo_91 : decode cX7_worthSo 91 = .ok (.iload 4, 2) := by decide +kernel
theorem dX7_worthSo_93 : decode cX7_worthSo 93 = .ok (.isub, 1) := by decide +kernel
theorem dX7_worthSo_94 : decode cX7_worthSo 94 = .ok (.invokestatic 102, 3) := by decide +kernel
theorem dX7_worthSo_97 : decode cX7_worthSo 97 = .ok (.goto 14, 3) := by decide +kernel
theorem dX7_worthSo_100 : decode cX7_worthSo 100 = .ok (.iconst 0, 1) := by decide +kernel
theorem dX7_worthSo_101 : decode cX7_worthSo 101 = .ok (.iload 6, 2) := by decide +kernel
theorem dX7_worthSo_103 : decode cX7_worthSo 103 = .ok (.iload 4, 2) := by decide +kernel
theorem dX7_worthSo_105 : decode cX7_worthSo 105 = .ok (.isub, 1) := by decide +kernel
theorem dX7_worthSo_106 : decode cX7_worthSo 106 = .ok (.invokestatic 102, 3) := by decide +kernel
theorem dX7_worthSo_109 : decode cX7_worthSo 109 = .ok (.iconst 2, 1) := by decide +kernel
theorem dX7_worthSo_110 : decode cX7_worthSo 110 = .ok (.idiv, 1) := by decide +kernel
theorem dX7_worthSo_111 : decode cX7_worthSo 111 = .ok (.ireturn, 1) := by decide +kernel
theorem dX7_worthSo_112 : decode cX7_worthSo 112 = .ok (.iload 6, 2) := by decide +kernel
theorem dX7_worthSo_114 : decode cX7_worthSo 114 = .ok (.ireturn, 1) := by decide +kernel
theorem dX7_worth_0 : decode cX7_worth 0 = .ok (.aload_n 0, 1) := by decide +kernel
theorem dX7_worth_1 : decode cX7_worth 1 = .ok (.iload_n 1, 1) := by decide +kernel
theorem dX7_worth_2 : decode cX7_worth 2 = .ok (.aload_n 0, 1) := by decide +kernel
theorem dX7_worth_3 : decode cX7_worth 3 = .ok (.iload_n 1, 1) := by decide +kernel
theorem dX7_worth_4 : decode cX7_worth 4 = .ok (.iconst 0, 1) := by decide +kernel
theorem dX7_worth_5 : decode cX7_worth 5 = .ok (.invokevirtual 99, 3) := by decide +kernel
theorem dX7_worth_8 : decode cX7_worth 8 = .ok (.aload_n 0, 1) := by decide +kernel
theorem dX7_worth_9 : decode cX7_worth 9 = .ok (.iload_n 1, 1) := by decide +kernel
theorem dX7_worth_10 : decode cX7_worth 10 = .ok (.iconst 4, 1) := by decide +kernel
theorem dX7_worth_11 : decode cX7_worth 11 = .ok (.invokevirtual 99, 3) := by decide +kernel
theorem dX7_worth_14 : decode cX7_worth 14 = .ok (.aload_n 0, 1) := by decide +kernel
theorem dX7_worth_15 : decode cX7_worth 15 = .ok (.iload_n 1, 1) := by decide +kernel
theorem dX7_worth_16 : decode cX7_worth 16 = .ok (.iconst 5, 1) := by decide +kernel
theorem dX7_worth_17 : decode cX7_worth 17 = .ok (.invokevirtual 99, 3) := by decide +kernel
theorem dX7_worth_20 : decode cX7_worth 20 = .ok (.aload_n 0, 1) := by decide +kernel
theorem dX7_worth_21 : decode cX7_worth 21 = .ok (.iload_n 1, 1) := by decide +kernel
theorem dX7_worth_22 : decode cX7_worth 22 = .ok (.iconst 1, 1) := by decide +kernel
theorem dX7_worth_23 : decode cX7_worth 23 = .ok (.invokevirtual 99, 3) := by decide +kernel
theorem dX7_worth_26 : decode cX7_worth 26 = .ok (.invokevirtual 107, 3) := by decide +kernel
theorem dX7_worth_29 : decode cX7_worth 29 = .ok (.ireturn, 1) := by decide +kernel
theorem dX7_liesThen_0 : decode cX7_liesThen 0 = .ok (.aload_n 0, 1) := by decide +kernel
theorem dX7_liesThen_1 : decode cX7_liesThen 1 = .ok (.iload_n 1, 1) := by decide +kernel
theorem dX7_liesThen_2 : decode cX7_liesThen 2 = .ok (.iconst 0, 1) := by decide +kernel
theorem dX7_liesThen_3 : decode cX7_liesThen 3 = .ok (.invokevirtual 99, 3) := by decide +kernel
theorem dX7_liesThen_6 : decode cX7_liesThen 6 = .ok (.istore_n 2, 1) := by decide +kernel
theorem dX7_liesThen_7 : decode cX7_liesThen 7 = .ok (.iload_n 2, 1) := by decide +kernel
theorem dX7_liesThen_8 : decode cX7_liesThen 8 = .ok (.iconst 2, 1) := by decide +kernel
theorem dX7_liesThen_9 : decode cX7_liesThen 9 = .ok (.invokestatic 110, 3) := by decide +kernel
theorem dX7_liesThen_12 : decode cX7_liesThen 12 = .ok (.ifCond .ne 8, 3) := by decide +kernel
theorem dX7_liesThen_15 : decode cX7_liesThen 15 = .ok (.iload_n 2, 1) := by decide +kernel
theorem dX7_liesThen_16 : decode cX7_liesThen 16 = .ok (.iconst 4, 1) := by decide +kernel
theorem dX7_liesThen_17 : decode cX7_liesThen 17 = .ok (.if_icmp .ne 12, 3) := by decide +kernel
theorem dX7_liesThen_20 : decode cX7_liesThen 20 = .ok (.aload_n 0, 1) := by decide +kernel
theorem dX7_liesThen_21 : decode cX7_liesThen 21 = .ok (.iload_n 1, 1) := by decide +kernel
theorem dX7_liesThen_22 : decode cX7_liesThen 22 = .ok (.iconst 4, 1) := by decide +kernel
theorem dX7_liesThen_23 : decode cX7_liesThen 23 = .ok (.invokevirtual 99, 3) := by decide +kernel
theorem dX7_liesThen_26 : decode cX7_liesThen 26 = .ok (.goto 11, 3) := by decide +kernel
theorem dX7_liesThen_29 : decode cX7_liesThen 29 = .ok (.iconst 1, 1) := by decide +kernel
theorem dX7_liesThen_30 : decode cX7_liesThen 30 = .ok (.aload_n 0, 1) := by decide +kernel
theorem dX7_liesThen_31 : decode cX7_liesThen 31 = .ok (.iload_n 1, 1) := by decide +kernel
theorem dX7_liesThen_32 : decode cX7_liesThen 32 = .ok (.iconst 4, 1) := by decide +kernel
theorem dX7_liesThen_33 : decode cX7_liesThen 33 = .ok (.invokevirtual 99, 3) := by decide +kernel
theorem dX7_liesThen_36 : decode cX7_liesThen 36 = .ok (.isub, 1) := by decide +kernel
theorem dX7_liesThen_37 : decode cX7_liesThen 37 = .ok (.ireturn, 1) := by decide +kernel
theorem dX7_turnsThen_0 : decode cX7_turnsThen 0 = .ok (.aload_n 0, 1) := by decide +kernel
theorem dX7_turnsThen_1 : decode cX7_turnsThen 1 = .ok (.iload_n 1, 1) := by decide +kernel
theorem dX7_turnsThen_2 : decode cX7_turnsThen 2 = .ok (.iconst 0, 1) := by decide +kernel
theorem dX7_turnsThen_3 : decode cX7_turnsThen 3 = .ok (.invokevirtual 99, 3) := by decide +kernel
theorem dX7_turnsThen_6 : decode cX7_turnsThen 6 = .ok (.istore_n 2, 1) := by decide +kernel
theorem dX7_turnsThen_7 : decode cX7_turnsThen 7 = .ok (.aload_n 0, 1) := by decide +kernel
theorem dX7_turnsThen_8 : decode cX7_turnsThen 8 = .ok (.iload_n 1, 1) := by decide +kernel
theorem dX7_turnsThen_9 : decode cX7_turnsThen 9 = .ok (.iconst 5, 1) := by decide +kernel
theorem dX7_turnsThen_10 : decode cX7_turnsThen 10 = .ok (.invokevirtual 99, 3) := by decide +kernel
theorem dX7_turnsThen_13 : decode cX7_turnsThen 13 = .ok (.iload_n 2, 1) := by decide +kernel
theorem dX7_turnsThen_14 : decode cX7_turnsThen 14 = .ok (.iconst 2, 1) := by decide +kernel
theorem dX7_turnsThen_15 : decode cX7_turnsThen 15 = .ok (.invokestatic 110, 3) := by decide +kernel
theorem dX7_turnsThen_18 : decode cX7_turnsThen 18 = .ok (.ifCond .eq 7, 3) := by decide +kernel
theorem dX7_turnsThen_21 : decode cX7_turnsThen 21 = .ok (.iconst 0, 1) := by decide +kernel
theorem dX7_turnsThen_22 : decode cX7_turnsThen 22 = .ok (.goto 13, 3) := by decide +kernel
theorem dX7_turnsThen_25 : decode cX7_turnsThen 25 = .ok (.iload_n 2, 1) := by decide +kernel
theorem dX7_turnsThen_26 : decode cX7_turnsThen 26 = .ok (.iconst 4, 1) := by decide +kernel
theorem dX7_turnsThen_27 : decode cX7_turnsThen 27 = .ok (.if_icmp .ne 7, 3) := by decide +kernel
theorem dX7_turnsThen_30 : decode cX7_turnsThen 30 = .ok (.iconst 2, 1) := by decide +kernel
theorem dX7_turnsThen_31 : decode cX7_turnsThen 31 = .ok (.goto 4, 3) := by decide +kernel
theorem dX7_turnsThen_34 : decode cX7_turnsThen 34 = .ok (.iconst 1, 1) := by decide +kernel
theorem dX7_turnsThen_35 : decode cX7_turnsThen 35 = .ok (.iadd, 1) := by decide +kernel
theorem dX7_turnsThen_36 : decode cX7_turnsThen 36 = .ok (.ireturn, 1) := by decide +kernel
theorem dX7_worthPaid_0 : decode cX7_worthPaid 0 = .ok (.aload_n 0, 1) := by decide +kernel
theorem dX7_worthPaid_1 : decode cX7_worthPaid 1 = .ok (.iload_n 1, 1) := by decide +kernel
theorem dX7_worthPaid_2 : decode cX7_worthPaid 2 = .ok (.aload_n 0, 1) := by decide +kernel
theorem dX7_worthPaid_3 : decode cX7_worthPaid 3 = .ok (.iload_n 1, 1) := by decide +kernel
theorem dX7_worthPaid_4 : decode cX7_worthPaid 4 = .ok (.iconst 0, 1) := by decide +kernel
theorem dX7_worthPaid_5 : decode cX7_worthPaid 5 = .ok (.invokevirtual 99, 3) := by decide +kernel
theorem dX7_worthPaid_8 : decode cX7_worthPaid 8 = .ok (.aload_n 0, 1) := by decide +kernel
theorem dX7_worthPaid_9 : decode cX7_worthPaid 9 = .ok (.iload_n 1, 1) := by decide +kernel
theorem dX7_worthPaid_10 : decode cX7_worthPaid 10 = .ok (.invokevirtual 114, 3) := by decide +kernel
theorem dX7_worthPaid_13 : decode cX7_worthPaid 13 = .ok (.aload_n 0, 1) := by decide +kernel
theorem dX7_worthPaid_14 : decode cX7_worthPaid 14 = .ok (.iload_n 1, 1) := by decide +kernel
theorem dX7_worthPaid_15 : decode cX7_worthPaid 15 = .ok (.invokevirtual 117, 3) := by decide +kernel
theorem dX7_worthPaid_18 : decode cX7_worthPaid 18 = .ok (.iload_n 2, 1) := by decide +kernel
theorem dX7_worthPaid_19 : decode cX7_worthPaid 19 = .ok (.invokevirtual 107, 3) := by decide +kernel
theorem dX7_worthPaid_22 : decode cX7_worthPaid 22 = .ok (.ireturn, 1) := by decide +kernel
theorem dX7_turnsOver_0 : decode cX7_turnsOver 0 = .ok (.aload_n 0, 1) := by decide +kernel
theorem dX7_turnsOver_1 : decode cX7_turnsOver 1 = .ok (.iload_n 1, 1) := by decide +kernel
theorem dX7_turnsOver_2 : decode cX7_turnsOver 2 = .ok (.invokevirtual 117, 3) := by decide +kernel
theorem dX7_turnsOver_5 : decode cX7_turnsOver 5 = .ok (.istore_n 2, 1) := by decide +kernel
theorem dX7_turnsOver_6 : decode cX7_turnsOver 6 = .ok (.aload_n 0, 1) := by decide +kernel
theorem dX7_turnsOver_7 : decode cX7_turnsOver 7 = .ok (.getfield 9, 3) := by decide +kernel
theorem dX7_turnsOver_10 : decode cX7_turnsOver 10 = .ok (.iload_n 1, 1) := by decide +kernel
theorem dX7_turnsOver_11 : decode cX7_turnsOver 11 = .ok (.iconst 4, 1) := by decide +kernel
theorem dX7_turnsOver_12 : decode cX7_turnsOver 12 = .ok (.invokestatic 80, 3) := by decide +kernel
theorem dX7_turnsOver_15 : decode cX7_turnsOver 15 = .ok (.aload_n 0, 1) := by decide +kernel
theorem dX7_turnsOver_16 : decode cX7_turnsOver 16 = .ok (.iload_n 1, 1) := by decide +kernel
theorem dX7_turnsOver_17 : decode cX7_turnsOver 17 = .ok (.invokevirtual 114, 3) := by decide +kernel
theorem dX7_turnsOver_20 : decode cX7_turnsOver 20 = .ok (.iastore, 1) := by decide +kernel
theorem dX7_turnsOver_21 : decode cX7_turnsOver 21 = .ok (.aload_n 0, 1) := by decide +kernel
theorem dX7_turnsOver_22 : decode cX7_turnsOver 22 = .ok (.getfield 9, 3) := by decide +kernel
theorem dX7_turnsOver_25 : decode cX7_turnsOver 25 = .ok (.iload_n 1, 1) := by decide +kernel
theorem dX7_turnsOver_26 : decode cX7_turnsOver 26 = .ok (.iconst 5, 1) := by decide +kernel
theorem dX7_turnsOver_27 : decode cX7_turnsOver 27 = .ok (.invokestatic 80, 3) := by decide +kernel
theorem dX7_turnsOver_30 : decode cX7_turnsOver 30 = .ok (.iload_n 2, 1) := by decide +kernel
theorem dX7_turnsOver_31 : decode cX7_turnsOver 31 = .ok (.iastore, 1) := by decide +kernel
theorem dX7_turnsOver_32 : decode cX7_turnsOver 32 = .ok (.return_, 1) := by decide +kernel
theorem dX7_paid_0 : decode cX7_paid 0 = .ok (.aload_n 0, 1) := by decide +kernel
theorem dX7_paid_1 : decode cX7_paid 1 = .ok (.getfield 9, 3) := by decide +kernel
theorem dX7_paid_4 : decode cX7_paid 4 = .ok (.iload_n 1, 1) := by decide +kernel
theorem dX7_paid_5 : decode cX7_paid 5 = .ok (.iconst 1, 1) := by decide +kernel
theorem dX7_paid_6 : decode cX7_paid 6 = .ok (.invokestatic 80, 3) := by decide +kernel
theorem dX7_paid_9 : decode cX7_paid 9 = .ok (.iload_n 2, 1) := by decide +kernel
theorem dX7_paid_10 : decode cX7_paid 10 = .ok (.iastore, 1) := by decide +kernel
theorem dX7_paid_11 : decode cX7_paid 11 = .ok (.aload_n 0, 1) := by decide +kernel
theorem dX7_paid_12 : decode cX7_paid 12 = .ok (.iload_n 1, 1) := by decide +kernel
theorem dX7_paid_13 : decode cX7_paid 13 = .ok (.invokevirtual 120, 3) := by decide +kernel
theorem dX7_paid_16 : decode cX7_paid 16 = .ok (.return_, 1) := by decide +kernel
theorem dX7_of_0 : decode cX7_of 0 = .ok (.aload_n 0, 1) := by decide +kernel
theorem dX7_of_1 : decode cX7_of 1 = .ok (.iload_n 1, 1) := by decide +kernel
theorem dX7_of_2 : decode cX7_of 2 = .ok (.invokevirtual 124, 3) := by decide +kernel
theorem dX7_of_5 : decode cX7_of 5 = .ok (.ifCond .eq 13, 3) := by decide +kernel
theorem dX7_of_8 : decode cX7_of 8 = .ok (.iload_n 2, 1) := by decide +kernel
theorem dX7_of_9 : decode cX7_of 9 = .ok (.iconst 0, 1) := by decide +kernel
theorem dX7_of_10 : decode cX7_of 10 = .ok (.bipush 6, 2) := by decide +kernel
theorem dX7_of_12 : decode cX7_of 12 = .ok (.invokestatic 72, 3) := by decide +kernel
theorem dX7_of_15 : decode cX7_of 15 = .ok (.ifCond .ne 10, 3) := by decide +kernel
theorem dX7_of_18 : decode cX7_of 18 = .ok (.aload_n 0, 1) := by decide +kernel
theorem dX7_of_19 : decode cX7_of 19 = .ok (.ldc 67, 2) := by decide +kernel
theorem dX7_of_21 : decode cX7_of 21 = .ok (.invokevirtual 87, 3) := by decide +kernel
theorem dX7_of_24 : decode cX7_of 24 = .ok (.ireturn, 1) := by decide +kernel
theorem dX7_of_25 : decode cX7_of 25 = .ok (.iload_n 2, 1) := by decide +kernel
theorem dX7_of_26 : decode cX7_of 26 = .ok (.bipush 6, 2) := by decide +kernel
theorem dX7_of_28 : decode cX7_of 28 = .ok (.if_icmp .ne 11, 3) := by decide +kernel
theorem dX7_of_31 : decode cX7_of 31 = .ok (.aload_n 0, 1) := by decide +kernel
theorem dX7_of_32 : decode cX7_of 32 = .ok (.iload_n 1, 1) := by decide +kernel
theorem dX7_of_33 : decode cX7_of 33 = .ok (.invokevirtual 127, 3) := by decide +kernel
theorem dX7_of_36 : decode cX7_of 36 = .ok (.goto 9, 3) := by decide +kernel
theorem dX7_of_39 : decode cX7_of 39 = .ok (.aload_n 0, 1) := by decide +kernel
theorem dX7_of_40 : decode cX7_of 40 = .ok (.iload_n 1, 1) := by decide +kernel
theorem dX7_of_41 : decode cX7_of 41 = .ok (.iload_n 2, 1) := by decide +kernel
theorem dX7_of_42 : decode cX7_of 42 = .ok (.invokevirtual 99, 3) := by decide +kernel
theorem dX7_of_45 : decode cX7_of 45 = .ok (.ireturn, 1) := by decide +kernel
theorem dX7_change_0 : decode cX7_change 0 = .ok (.iload_n 2, 1) := by decide +kernel
theorem dX7_change_1 : decode cX7_change 1 = .ok (.ifCond .ne 8, 3) := by decide +kernel
theorem dX7_change_4 : decode cX7_change 4 = .ok (.bipush 6, 2) := by decide +kernel
theorem dX7_change_6 : decode cX7_change 6 = .ok (.goto 23, 3) := by decide +kernel
theorem dX7_change_9 : decode cX7_change 9 = .ok (.iload_n 2, 1) := by decide +kernel
theorem dX7_change_10 : decode cX7_change 10 = .ok (.iconst 1, 1) := by decide +kernel
theorem dX7_change_11 : decode cX7_change 11 = .ok (.if_icmp .ne 7, 3) := by decide +kernel
theorem dX7_change_14 : decode cX7_change 14 = .ok (.iconst 3, 1) := by decide +kernel
theorem dX7_change_15 : decode cX7_change 15 = .ok (.goto 14, 3) := by decide +kernel
theorem dX7_change_18 : decode cX7_change 18 = .ok (.iload_n 2, 1) := by decide +kernel
theorem dX7_change_19 : decode cX7_change 19 = .ok (.iconst 4, 1) := by decide +kernel
theorem dX7_change_20 : decode cX7_change 20 = .ok (.if_icmp .ne 7, 3) := by decide +kernel
theorem dX7_change_23 : decode cX7_change 23 = .ok (.iconst 1, 1) := by decide +kernel
theorem dX7_change_24 : decode cX7_change 24 = .ok (.goto 5, 3) := by decide +kernel
theorem dX7_change_27 : decode cX7_change 27 = .ok (.bipush 99, 2) := by decide +kernel
theorem dX7_change_29 : decode cX7_change 29 = .ok (.istore 4, 2) := by decide +kernel
theorem dX7_change_31 : decode cX7_change 31 = .ok (.iload_n 2, 1) := by decide +kernel
theorem dX7_change_32 : decode cX7_change 32 = .ok (.iconst 0, 1) := by decide +kernel
theorem dX7_change_33 : decode cX7_change 33 = .ok (.iconst 4, 1) := by decide +kernel
theorem dX7_change_34 : decode cX7_change 34 = .ok (.invokestatic 72, 3) := by decide +kernel
theorem dX7_change_37 : decode cX7_change 37 = .ok (.ifCond .eq 17, 3) := by decide +kernel
theorem dX7_change_40 : decode cX7_change 40 = .ok (.iload_n 3, 1) := by decide +kernel
theorem dX7_change_41 : decode cX7_change 41 = .ok (.iconst 0, 1) := by decide +kernel
theorem dX7_change_42 : decode cX7_change 42 = .ok (.iload 4, 2) := by decide +kernel
theorem dX7_change_44 : decode cX7_change 44 = .ok (.invokestatic 72, 3) := by decide +kernel
theorem dX7_change_47 : decode cX7_change 47 = .ok (.ifCond .eq 7, 3) := by decide +kernel
theorem dX7_change_50 : decode cX7_change 50 = .ok (.iconst 1, 1) := by decide +kernel
theorem dX7_change_51 : decode cX7_change 51 = .ok (.goto 4, 3) := by decide +kernel
theorem dX7_change_54 : decode cX7_change 54 = .ok (.iconst 0, 1) := by decide +kernel
theorem dX7_change_55 : decode cX7_change 55 = .ok (.istore 5, 2) := by decide +kernel
theorem dX7_change_57 : decode cX7_change 57 = .ok (.aload_n 0, 1) := by decide +kernel
theorem dX7_change_58 : decode cX7_change 58 = .ok (.iload_n 1, 1) := by decide +kernel
theorem dX7_change_59 : decode cX7_change 59 = .ok (.invokevirtual 124, 3) := by decide +kernel
theorem dX7_change_62 : decode cX7_change 62 = .ok (.ifCond .eq 21, 3) := by decide +kernel
theorem dX7_change_65 : decode cX7_change 65 = .ok (.iload 5, 2) := by decide +kernel
theorem dX7_change_67 : decode cX7_change 67 = .ok (.ifCond .eq 16, 3) := by decide +kernel
theorem dX7_change_70 : decode cX7_change 70 = .ok (.aload_n 0, 1) := by decide +kernel
theorem dX7_change_71 : decode cX7_change 71 = .ok (.iload_n 1, 1) := by decide +kernel
theorem dX7_change_72 : decode cX7_change 72 = .ok (.iload_n 2, 1) := by decide +kernel
theorem dX7_change_73 : decode cX7_change 73 = .ok (.invokestatic 80, 3) := by decide +kernel
theorem dX7_change_76 : decode cX7_change 76 = .ok (.iload_n 3, 1) := by decide +kernel
theorem dX7_change_77 : decode cX7_change 77 = .ok (.invokevirtual 130, 3) := by decide +kernel
theorem dX7_change_80 : decode cX7_change 80 = .ok (.goto 9, 3) := by decide +kernel
theorem dX7_change_83 : decode cX7_change 83 = .ok (.aload_n 0, 1) := by decide +kernel
theorem dX7_change_84 : decode cX7_change 84 = .ok (.ldc 67, 2) := by decide +kernel
theorem dX7_change_86 : decode cX7_change 86 = .ok (.invokevirtual 87, 3) := by decide +kernel
theorem dX7_change_89 : decode cX7_change 89 = .ok (.ireturn, 1) := by decide +kernel
theorem dX7_turn_0 : decode cX7_turn 0 = .ok (.aload_n 0, 1) := by decide +kernel
theorem dX7_turn_1 : decode cX7_turn 1 = .ok (.iload_n 1, 1) := by decide +kernel
theorem dX7_turn_2 : decode cX7_turn 2 = .ok (.invokevirtual 124, 3) := by decide +kernel
theorem dX7_turn_5 : decode cX7_turn 5 = .ok (.ifCond .ne 10, 3) := by decide +kernel
theorem dX7_turn_8 : decode cX7_turn 8 = .ok (.aload_n 0, 1) := by decide +kernel
theorem dX7_turn_9 : decode cX7_turn 9 = .ok (.ldc 67, 2) := by decide +kernel
theorem dX7_turn_11 : decode cX7_turn 11 = .ok (.invokevirtual 87, 3) := by decide +kernel
theorem dX7_turn_14 : decode cX7_turn 14 = .ok (.ireturn, 1) := by decide +kernel
theorem dX7_turn_15 : decode cX7_turn 15 = .ok (.aload_n 0, 1) := by decide +kernel
theorem dX7_turn_16 : decode cX7_turn 16 = .ok (.iload_n 1, 1) := by decide +kernel
theorem dX7_turn_17 : decode cX7_turn 17 = .ok (.invokevirtual 120, 3) := by decide +kernel
theorem dX7_turn_20 : decode cX7_turn 20 = .ok (.aload_n 0, 1) := by decide +kernel
theorem dX7_turn_21 : decode cX7_turn 21 = .ok (.iload_n 1, 1) := by decide +kernel
theorem dX7_turn_22 : decode cX7_turn 22 = .ok (.invokevirtual 127, 3) := by decide +kernel
theorem dX7_turn_25 : decode cX7_turn 25 = .ok (.ireturn, 1) := by decide +kernel
theorem dX7_setOf_0 : decode cX7_setOf 0 = .ok (.iconst 0, 1) := by decide +kernel
theorem dX7_setOf_1 : decode cX7_setOf 1 = .ok (.istore_n 2, 1) := by decide +kernel
theorem dX7_setOf_2 : decode cX7_setOf 2 = .ok (.iconst 0, 1) := by decide +kernel
theorem dX7_setOf_3 : decode cX7_setOf 3 = .ok (.istore_n 3, 1) := by decide +kernel
theorem dX7_setOf_4 : decode cX7_setOf 4 = .ok (.iload_n 3, 1) := by decide +kernel
theorem dX7_setOf_5 : decode cX7_setOf 5 = .ok (.aload_n 0, 1) := by decide +kernel
theorem dX7_setOf_6 : decode cX7_setOf 6 = .ok (.getfield 9, 3) := by decide +kernel
theorem dX7_setOf_9 : decode cX7_setOf 9 = .ok (.iconst 1, 1) := by decide +kernel
theorem dX7_setOf_10 : decode cX7_setOf 10 = .ok (.iaload, 1) := by decide +kernel
theorem dX7_setOf_11 : decode cX7_setOf 11 = .ok (.if_icmp .ge 29, 3) := by decide +kernel
theorem dX7_setOf_14 : decode cX7_setOf 14 = .ok (.iload_n 2, 1) := by decide +kernel
theorem dX7_setOf_15 : decode cX7_setOf 15 = .ok (.aload_n 0, 1) := by decide +kernel
theorem dX7_setOf_16 : decode cX7_setOf 16 = .ok (.iload_n 3, 1) := by decide +kernel
theorem dX7_setOf_17 : decode cX7_setOf 17 = .ok (.iconst 1, 1) := by decide +kernel
theorem dX7_setOf_18 : decode cX7_setOf 18 = .ok (.invokevirtual 99, 3) := by decide +kernel
theorem dX7_setOf_21 : decode cX7_setOf 21 = .ok (.iload_n 1, 1) := by decide +kernel
theorem dX7_setOf_22 : decode cX7_setOf 22 = .ok (.if_icmp .ne 9, 3) := by decide +kernel
theorem dX7_setOf_25 : decode cX7_setOf 25 = .ok (.iconst 1, 1) := by decide +kernel
theorem dX7_setOf_26 : decode cX7_setOf 26 = .ok (.iload_n 3, 1) := by decide +kernel
theorem dX7_setOf_27 : decode cX7_setOf 27 = .ok (.ishl, 1) := by decide +kernel
theorem dX7_setOf_28 : decode cX7_setOf 28 = .ok (.goto 4, 3) := by decide +kernel
theorem dX7_setOf_31 : decode cX7_setOf 31 = .ok (.iconst 0, 1) := by decide +kernel
theorem dX7_setOf_32 : decode cX7_setOf 32 = .ok (.ior, 1) := by decide +kernel
theorem dX7_setOf_33 : decode cX7_setOf 33 = .ok (.istore_n 2, 1) := by decide +kernel
theorem dX7_setOf_34 : decode cX7_setOf 34 = .ok (.iinc 3 1, 3) := by decide +kernel
theorem dX7_setOf_37 : decode cX7_setOf 37 = .ok (.goto (-33), 3) := by decide +kernel
theorem dX7_setOf_40 : decode cX7_setOf 40 = .ok (.iload_n 2, 1) := by decide +kernel
theorem dX7_setOf_41 : decode cX7_setOf 41 = .ok (.ireturn, 1) := by decide +kernel
theorem dX7_shipUp_0 : decode cX7_shipUp 0 = .ok (.iconst 0, 1) := by decide +kernel
theorem dX7_shipUp_1 : decode cX7_shipUp 1 = .ok (.istore_n 1, 1) := by decide +kernel
theorem dX7_shipUp_2 : decode cX7_shipUp 2 = .ok (.iconst 0, 1) := by decide +kernel
theorem dX7_shipUp_3 : decode cX7_shipUp 3 = .ok (.istore_n 2, 1) := by decide +kernel
theorem dX7_shipUp_4 : decode cX7_shipUp 4 = .ok (.iload_n 2, 1) := by decide +kernel
theorem dX7_shipUp_5 : decode cX7_shipUp 5 = .ok (.aload_n 0, 1) := by decide +kernel
theorem dX7_shipUp_6 : decode cX7_shipUp 6 = .ok (.getfield 9, 3) := by decide +kernel
theorem dX7_shipUp_9 : decode cX7_shipUp 9 = .ok (.iconst 1, 1) := by decide +kernel
theorem dX7_shipUp_10 : decode cX7_shipUp 10 = .ok (.iaload, 1) := by decide +kernel
theorem dX7_shipUp_11 : decode cX7_shipUp 11 = .ok (.if_icmp .ge 20, 3) := by decide +kernel
theorem dX7_shipUp_14 : decode cX7_shipUp 14 = .ok (.iload_n 1, 1) := by decide +kernel
theorem dX7_shipUp_15 : decode cX7_shipUp 15 = .ok (.aload_n 0, 1) := by decide +kernel
theorem dX7_shipUp_16 : decode cX7_shipUp 16 = .ok (.iload_n 2, 1) := by decide +kernel
theorem dX7_shipUp_17 : decode cX7_shipUp 17 = .ok (.iconst 4, 1) := by decide +kernel
theorem dX7_shipUp_18 : decode cX7_shipUp 18 = .ok (.invokevirtual 99, 3) := by decide +kernel
theorem dX7_shipUp_21 : decode cX7_shipUp 21 = .ok (.iload_n 2, 1) := by decide +kernel
theorem dX7_shipUp_22 : decode cX7_shipUp 22 = .ok (.ishl, 1) := by decide +kernel
theorem dX7_shipUp_23 : decode cX7_shipUp 23 = .ok (.ior, 1) := by decide +kernel
theorem dX7_shipUp_24 : decode cX7_shipUp 24 = .ok (.istore_n 1, 1) := by decide +kernel
theorem dX7_shipUp_25 : decode cX7_shipUp 25 = .ok (.iinc 2 1, 3) := by decide +kernel
theorem dX7_shipUp_28 : decode cX7_shipUp 28 = .ok (.goto (-24), 3) := by decide +kernel
theorem dX7_shipUp_31 : decode cX7_shipUp 31 = .ok (.iload_n 1, 1) := by decide +kernel
theorem dX7_shipUp_32 : decode cX7_shipUp 32 = .ok (.ireturn, 1) := by decide +kernel
theorem dX7_has_0 : decode cX7_has 0 = .ok (.iload_n 0, 1) := by decide +kernel
theorem dX7_has_1 : decode cX7_has 1 = .ok (.iload_n 1, 1) := by decide +kernel
theorem dX7_has_2 : decode cX7_has 2 = .ok (.ishr, 1) := by decide +kernel
theorem dX7_has_3 : decode cX7_has 3 = .ok (.iconst 1, 1) := by decide +kernel
theorem dX7_has_4 : decode cX7_has 4 = .ok (.iand, 1) := by decide +kernel
theorem dX7_has_5 : decode cX7_has 5 = .ok (.iconst 1, 1) := by decide +kernel
theorem dX7_has_6 : decode cX7_has 6 = .ok (.if_icmp .ne 7, 3) := by decide +kernel
theorem dX7_has_9 : decode cX7_has 9 = .ok (.iconst 1, 1) := by decide +kernel
theorem dX7_has_10 : decode cX7_has 10 = .ok (.goto 4, 3) := by decide +kernel
theorem dX7_has_13 : decode cX7_has 13 = .ok (.iconst 0, 1) := by decide +kernel
theorem dX7_has_14 : decode cX7_has 14 = .ok (.ireturn, 1) := by decide +kernel
theorem dX7_sumOf_0 : decode cX7_sumOf 0 = .ok (.iconst 0, 1) := by decide +kernel
theorem dX7_sumOf_1 : decode cX7_sumOf 1 = .ok (.istore_n 2, 1) := by decide +kernel
theorem dX7_sumOf_2 : decode cX7_sumOf 2 = .ok (.iconst 0, 1) := by decide +kernel
theorem dX7_sumOf_3 : decode cX7_sumOf 3 = .ok (.istore_n 3, 1) := by decide +kernel
theorem dX7_sumOf_4 : decode cX7_sumOf 4 = .ok (.iload_n 3, 1) := by decide +kernel
theorem dX7_sumOf_5 : decode cX7_sumOf 5 = .ok (.aload_n 0, 1) := by decide +kernel
theorem dX7_sumOf_6 : decode cX7_sumOf 6 = .ok (.getfield 9, 3) := by decide +kernel
theorem dX7_sumOf_9 : decode cX7_sumOf 9 = .ok (.iconst 1, 1) := by decide +kernel
theorem dX7_sumOf_10 : decode cX7_sumOf 10 = .ok (.iaload, 1) := by decide +kernel
theorem dX7_sumOf_11 : decode cX7_sumOf 11 = .ok (.if_icmp .ge 29, 3) := by decide +kernel
theorem dX7_sumOf_14 : decode cX7_sumOf 14 = .ok (.iload_n 2, 1) := by decide +kernel
theorem dX7_sumOf_15 : decode cX7_sumOf 15 = .ok (.iload_n 1, 1) := by decide +kernel
theorem dX7_sumOf_16 : decode cX7_sumOf 16 = .ok (.iload_n 3, 1) := by decide +kernel
theorem dX7_sumOf_17 : decode cX7_sumOf 17 = .ok (.invokestatic 133, 3) := by decide +kernel
theorem dX7_sumOf_20 : decode cX7_sumOf 20 = .ok (.ifCond .eq 11, 3) := by decide +kernel
theorem dX7_sumOf_23 : decode cX7_sumOf 23 = .ok (.aload_n 0, 1) := by decide +kernel
theorem dX7_sumOf_24 : decode cX7_sumOf 24 = .ok (.iload_n 3, 1) := by decide +kernel
theorem dX7_sumOf_25 : decode cX7_sumOf 25 = .ok (.invokevirtual 127, 3) := by decide +kernel
theorem dX7_sumOf_28 : decode cX7_sumOf 28 = .ok (.goto 4, 3) := by decide +kernel
theorem dX7_sumOf_31 : decode cX7_sumOf 31 = .ok (.iconst 0, 1) := by decide +kernel
theorem dX7_sumOf_32 : decode cX7_sumOf 32 = .ok (.iadd, 1) := by decide +kernel
theorem dX7_sumOf_33 : decode cX7_sumOf 33 = .ok (.istore_n 2, 1) := by decide +kernel
theorem dX7_sumOf_34 : decode cX7_sumOf 34 = .ok (.iinc 3 1, 3) := by decide +kernel
theorem dX7_sumOf_37 : decode cX7_sumOf 37 = .ok (.goto (-33), 3) := by decide +kernel
theorem dX7_sumOf_40 : decode cX7_sumOf 40 = .ok (.iload_n 2, 1) := by decide +kernel
theorem dX7_sumOf_41 : decode cX7_sumOf 41 = .ok (.ireturn, 1) := by decide +kernel
theorem dX7_sumPaid_0 : decode cX7_sumPaid 0 = .ok (.iconst 0, 1) := by decide +kernel
theorem dX7_sumPaid_1 : decode cX7_sumPaid 1 = .ok (.istore_n 3, 1) := by decide +kernel
theorem dX7_sumPaid_2 : decode cX7_sumPaid 2 = .ok (.iconst 0, 1) := by decide +kernel
theorem dX7_sumPaid_3 : decode cX7_sumPaid 3 = .ok (.istore 4, 2) := by decide +kernel
theorem dX7_sumPaid_5 : decode cX7_sumPaid 5 = .ok (.iload 4, 2) := by decide +kernel
theorem dX7_sumPaid_7 : decode cX7_sumPaid 7 = .ok (.aload_n 0, 1) := by decide +kernel
theorem dX7_sumPaid_8 : decode cX7_sumPaid 8 = .ok (.getfield 9, 3) := by decide +kernel
theorem dX7_sumPaid_11 : decode cX7_sumPaid 11 = .ok (.iconst 1, 1) := by decide +kernel
theorem dX7_sumPaid_12 : decode cX7_sumPaid 12 = .ok (.iaload, 1) := by decide +kernel
theorem dX7_sumPaid_13 : decode cX7_sumPaid 13 = .ok (.if_icmp .ge 32, 3) := by decide +kernel
theorem dX7_sumPaid_16 : decode cX7_sumPaid 16 = .ok (.iload_n 3, 1) := by decide +kernel
theorem dX7_sumPaid_17 : decode cX7_sumPaid 17 = .ok (.iload_n 1, 1) := by decide +kernel
theorem dX7_sumPaid_18 : decode cX7_sumPaid 18 = .ok (.iload 4, 2) := by decide +kernel
theorem dX7_sumPaid_20 : decode cX7_sumPaid 20 = .ok (.invokestatic 133, 3) := by decide +kernel
theorem dX7_sumPaid_23 : decode cX7_sumPaid 23 = .ok (.ifCond .eq 13, 3) := by decide +kernel
theorem dX7_sumPaid_26 : decode cX7_sumPaid 26 = .ok (.aload_n 0, 1) := by decide +kernel
theorem dX7_sumPaid_27 : decode cX7_sumPaid 27 = .ok (.iload 4, 2) := by decide +kernel
theorem dX7_sumPaid_29 : decode cX7_sumPaid 29 = .ok (.iload_n 2, 1) := by decide +kernel
theorem dX7_sumPaid_30 : decode cX7_sumPaid 30 = .ok (.invokevirtual 136, 3) := by decide +kernel
theorem dX7_sumPaid_33 : decode cX7_sumPaid 33 = .ok (.goto 4, 3) := by decide +kernel
theorem dX7_sumPaid_36 : decode cX7_sumPaid 36 = .ok (.iconst 0, 1) := by decide +kernel
theorem dX7_sumPaid_37 : decode cX7_sumPaid 37 = .ok (.iadd, 1) := by decide +kernel
theorem dX7_sumPaid_38 : decode cX7_sumPaid 38 = .ok (.istore_n 3, 1) := by decide +kernel
theorem dX7_sumPaid_39 : decode cX7_sumPaid 39 = .ok (.iinc 4 1, 3) := by decide +kernel
theorem dX7_sumPaid_42 : decode cX7_sumPaid 42 = .ok (.goto (-37), 3) := by decide +kernel
theorem dX7_sumPaid_45 : decode cX7_sumPaid 45 = .ok (.iload_n 3, 1) := by decide +kernel
theorem dX7_sumPaid_46 : decode cX7_sumPaid 46 = .ok (.ireturn, 1) := by decide +kernel
theorem dX7_purse_0 : decode cX7_purse 0 = .ok (.iload_n 1, 1) := by decide +kernel
theorem dX7_purse_1 : decode cX7_purse 1 = .ok (.invokestatic 76, 3) := by decide +kernel
theorem dX7_purse_4 : decode cX7_purse 4 = .ok (.ifCond .eq 12, 3) := by decide +kernel
theorem dX7_purse_7 : decode cX7_purse 7 = .ok (.iload_n 2, 1) := by decide +kernel
theorem dX7_purse_8 : decode cX7_purse 8 = .ok (.iconst 0, 1) := by decide +kernel
theorem dX7_purse_9 : decode cX7_purse 9 = .ok (.iconst 3, 1) := by decide +kernel
theorem dX7_purse_10 : decode cX7_purse 10 = .ok (.invokestatic 72, 3) := by decide +kernel
theorem dX7_purse_13 : decode cX7_purse 13 = .ok (.ifCond .ne 10, 3) := by decide +kernel
theorem dX7_purse_16 : decode cX7_purse 16 = .ok (.aload_n 0, 1) := by decide +kernel
theorem dX7_purse_17 : decode cX7_purse 17 = .ok (.ldc 67, 2) := by decide +kernel
theorem dX7_purse_19 : decode cX7_purse 19 = .ok (.invokevirtual 87, 3) := by decide +kernel
theorem dX7_purse_22 : decode cX7_purse 22 = .ok (.ireturn, 1) := by decide +kernel
theorem dX7_purse_23 : decode cX7_purse 23 = .ok (.aload_n 0, 1) := by decide +kernel
theorem dX7_purse_24 : decode cX7_purse 24 = .ok (.iload_n 1, 1) := by decide +kernel
theorem dX7_purse_25 : decode cX7_purse 25 = .ok (.invokevirtual 139, 3) := by decide +kernel
theorem dX7_purse_28 : decode cX7_purse 28 = .ok (.istore_n 3, 1) := by decide +kernel
theorem dX7_purse_29 : decode cX7_purse 29 = .ok (.iload_n 2, 1) := by decide +kernel
theorem dX7_purse_30 : decode cX7_purse 30 = .ok (.ifCond .ne 7, 3) := by decide +kernel
theorem dX7_purse_33 : decode cX7_purse 33 = .ok (.iload_n 3, 1) := by decide +kernel
theorem dX7_purse_34 : decode cX7_purse 34 = .ok (.goto 36, 3) := by decide +kernel
theorem dX7_purse_37 : decode cX7_purse 37 = .ok (.iload_n 2, 1) := by decide +kernel
theorem dX7_purse_38 : decode cX7_purse 38 = .ok (.iconst 1, 1) := by decide +kernel
theorem dX7_purse_39 : decode cX7_purse 39 = .ok (.if_icmp .ne 11, 3) := by decide +kernel
theorem dX7_purse_42 : decode cX7_purse 42 = .ok (.aload_n 0, 1) := by decide +kernel
theorem dX7_purse_43 : decode cX7_purse 43 = .ok (.iload_n 3, 1) := by decide +kernel
theorem dX7_purse_44 : decode cX7_purse 44 = .ok (.invokevirtual 142, 3) := by decide +kernel
theorem dX7_purse_47 : decode cX7_purse 47 = .ok (.goto 23, 3) := by decide +kernel
theorem dX7_purse_50 : decode cX7_purse 50 = .ok (.iload_n 2, 1) := by decide +kernel
theorem dX7_purse_51 : decode cX7_purse 51 = .ok (.iconst 2, 1) := by decide +kernel
theorem dX7_purse_52 : decode cX7_purse 52 = .ok (.if_icmp .ne 12, 3) := by decide +kernel
theorem dX7_purse_55 : decode cX7_purse 55 = .ok (.iload_n 3, 1) := by decide +kernel
theorem dX7_purse_56 : decode cX7_purse 56 = .ok (.aload_n 0, 1) := by decide +kernel
theorem dX7_purse_57 : decode cX7_purse 57 = .ok (.invokevirtual 145, 3) := by decide +kernel
theorem dX7_purse_60 : decode cX7_purse 60 = .ok (.iand, 1) := by decide +kernel
theorem dX7_purse_61 : decode cX7_purse 61 = .ok (.goto 9, 3) := by decide +kernel
theorem dX7_purse_64 : decode cX7_purse 64 = .ok (.aload_n 0, 1) := by decide +kernel
theorem dX7_purse_65 : decode cX7_purse 65 = .ok (.iload_n 3, 1) := by decide +kernel
theorem dX7_purse_66 : decode cX7_purse 66 = .ok (.iload_n 1, 1) := by decide +kernel
theorem dX7_purse_67 : decode cX7_purse 67 = .ok (.invokevirtual 149, 3) := by decide +kernel
theorem dX7_purse_70 : decode cX7_purse 70 = .ok (.ireturn, 1) := by decide +kernel
theorem dX7_sum_0 : decode cX7_sum 0 = .ok (.aload_n 0, 1) := by decide +kernel
theorem dX7_sum_1 : decode cX7_sum 1 = .ok (.iload_n 1, 1) := by decide +kernel
theorem dX7_sum_2 : decode cX7_sum 2 = .ok (.invokevirtual 152, 3) := by decide +kernel
theorem dX7_sum_5 : decode cX7_sum 5 = .ok (.ifCond .eq 11, 3) := by decide +kernel
theorem dX7_sum_8 : decode cX7_sum 8 = .ok (.aload_n 0, 1) := by decide +kernel
theorem dX7_sum_9 : decode cX7_sum 9 = .ok (.iload_n 1, 1) := by decide +kernel
theorem dX7_sum_10 : decode cX7_sum 10 = .ok (.invokevirtual 142, 3) := by decide +kernel
theorem dX7_sum_13 : decode cX7_sum 13 = .ok (.goto 9, 3) := by decide +kernel
theorem dX7_sum_16 : decode cX7_sum 16 = .ok (.aload_n 0, 1) := by decide +kernel
theorem dX7_sum_17 : decode cX7_sum 17 = .ok (.ldc 67, 2) := by decide +kernel
theorem dX7_sum_19 : decode cX7_sum 19 = .ok (.invokevirtual 87, 3) := by decide +kernel
theorem dX7_sum_22 : decode cX7_sum 22 = .ok (.ireturn, 1) := by decide +kernel
theorem dX7_paidAll_0 : decode cX7_paidAll 0 = .ok (.aload_n 0, 1) := by decide +kernel
theorem dX7_paidAll_1 : decode cX7_paidAll 1 = .ok (.iload_n 1, 1) := by decide +kernel
theorem dX7_paidAll_2 : decode cX7_paidAll 2 = .ok (.invokevirtual 142, 3) := by decide +kernel
theorem dX7_paidAll_5 : decode cX7_paidAll 5 = .ok (.istore_n 3, 1) := by decide +kernel
theorem dX7_paidAll_6 : decode cX7_paidAll 6 = .ok (.iconst 0, 1) := by decide +kernel
theorem dX7_paidAll_7 : decode cX7_paidAll 7 = .ok (.istore 4, 2) := by decide +kernel
theorem dX7_paidAll_9 : decode cX7_paidAll 9 = .ok (.iload 4, 2) := by decide +kernel
theorem dX7_paidAll_11 : decode cX7_paidAll 11 = .ok (.aload_n 0, 1) := by decide +kernel
theorem dX7_paidAll_12 : decode cX7_paidAll 12 = .ok (.getfield 9, 3) := by decide +kernel
theorem dX7_paidAll_15 : decode cX7_paidAll 15 = .ok (.iconst 1, 1) := by decide +kernel
theorem dX7_paidAll_16 : decode cX7_paidAll 16 = .ok (.iaload, 1) := by decide +kernel
theorem dX7_paidAll_17 : decode cX7_paidAll 17 = .ok (.if_icmp .ge 25, 3) := by decide +kernel
theorem dX7_paidAll_20 : decode cX7_paidAll 20 = .ok (.iload_n 1, 1) := by decide +kernel
theorem dX7_paidAll_21 : decode cX7_paidAll 21 = .ok (.iload 4, 2) := by decide +kernel
theorem dX7_paidAll_23 : decode cX7_paidAll 23 = .ok (.invokestatic 133, 3) := by decide +kernel
theorem dX7_paidAll_26 : decode cX7_paidAll 26 = .ok (.ifCond .eq 10, 3) := by decide +kernel
theorem dX7_paidAll_29 : decode cX7_paidAll 29 = .ok (.aload_n 0, 1) := by decide +kernel
theorem dX7_paidAll_30 : decode cX7_paidAll 30 = .ok (.iload 4, 2) := by decide +kernel
theorem dX7_paidAll_32 : decode cX7_paidAll 32 = .ok (.iload_n 2, 1) := by decide +kernel
theorem dX7_paidAll_33 : decode cX7_paidAll 33 = .ok (.invokevirtual 155, 3) := by decide +kernel
theorem dX7_paidAll_36 : decode cX7_paidAll 36 = .ok (.iinc 4 1, 3) := by decide +kernel
theorem dX7_paidAll_39 : decode cX7_paidAll 39 = .ok (.goto (-30), 3) := by decide +kernel
theorem dX7_paidAll_42 : decode cX7_paidAll 42 = .ok (.iload_n 3, 1) := by decide +kernel
theorem dX7_paidAll_43 : decode cX7_paidAll 43 = .ok (.ireturn, 1) := by decide +kernel
theorem dX7_pay_0 : decode cX7_pay 0 = .ok (.iload_n 1, 1) := by decide +kernel
theorem dX7_pay_1 : decode cX7_pay 1 = .ok (.iload_n 2, 1) := by decide +kernel
theorem dX7_pay_2 : decode cX7_pay 2 = .ok (.invokestatic 159, 3) := by decide +kernel
theorem dX7_pay_5 : decode cX7_pay 5 = .ok (.ifCond .eq 11, 3) := by decide +kernel
theorem dX7_pay_8 : decode cX7_pay 8 = .ok (.aload_n 0, 1) := by decide +kernel
theorem dX7_pay_9 : decode cX7_pay 9 = .ok (.iload_n 3, 1) := by decide +kernel
theorem dX7_pay_10 : decode cX7_pay 10 = .ok (.invokevirtual 152, 3) := by decide +kernel
theorem dX7_pay_13 : decode cX7_pay 13 = .ok (.ifCond .ne 10, 3) := by decide +kernel
theorem dX7_pay_16 : decode cX7_pay 16 = .ok (.aload_n 0, 1) := by decide +kernel
theorem dX7_pay_17 : decode cX7_pay 17 = .ok (.ldc 67, 2) := by decide +kernel
theorem dX7_pay_19 : decode cX7_pay 19 = .ok (.invokevirtual 87, 3) := by decide +kernel
theorem dX7_pay_22 : decode cX7_pay 22 = .ok (.ireturn, 1) := by decide +kernel
theorem dX7_pay_23 : decode cX7_pay 23 = .ok (.iload_n 3, 1) := by decide +kernel
theorem dX7_pay_24 : decode cX7_pay 24 = .ok (.aload_n 0, 1) := by decide +kernel
theorem dX7_pay_25 : decode cX7_pay 25 = .ok (.iload_n 1, 1) := by decide +kernel
theorem dX7_pay_26 : decode cX7_pay 26 = .ok (.invokevirtual 139, 3) := by decide +kernel
theorem dX7_pay_29 : decode cX7_pay 29 = .ok (.iconst (-1), 1) := by decide +kernel
theorem dX7_pay_30 : decode cX7_pay 30 = .ok (.ixor, 1) := by decide +kernel
theorem dX7_pay_31 : decode cX7_pay 31 = .ok (.iand, 1) := by decide +kernel
theorem dX7_pay_32 : decode cX7_pay 32 = .ok (.ifCond .eq 12, 3) := by decide +kernel
theorem dX7_pay_35 : decode cX7_pay 35 = .ok (.aload_n 0, 1) := by decide +kernel
theorem dX7_pay_36 : decode cX7_pay 36 = .ok (.ldc 162, 2) := by decide +kernel
theorem dX7_pay_38 : decode cX7_pay 38 = .ok (.invokevirtual 87, 3) := by decide +kernel
theorem dX7_pay_41 : decode cX7_pay 41 = .ok (.goto 9, 3) := by decide +kernel
theorem dX7_pay_44 : decode cX7_pay 44 = .ok (.aload_n 0, 1) := by decide +kernel
theorem dX7_pay_45 : decode cX7_pay 45 = .ok (.iload_n 3, 1) := by decide +kernel
theorem dX7_pay_46 : decode cX7_pay 46 = .ok (.iload_n 2, 1) := by decide +kernel
theorem dX7_pay_47 : decode cX7_pay 47 = .ok (.invokevirtual 163, 3) := by decide +kernel
theorem dX7_pay_50 : decode cX7_pay 50 = .ok (.ireturn, 1) := by decide +kernel
theorem dX7_there_0 : decode cX7_there 0 = .ok (.iload_n 1, 1) := by decide +kernel
theorem dX7_there_1 : decode cX7_there 1 = .ok (.iload_n 2, 1) := by decide +kernel
theorem dX7_there_2 : decode cX7_there 2 = .ok (.invokestatic 159, 3) := by decide +kernel
theorem dX7_there_5 : decode cX7_there 5 = .ok (.ifCond .ne 10, 3) := by decide +kernel
theorem dX7_there_8 : decode cX7_there 8 = .ok (.aload_n 0, 1) := by decide +kernel
theorem dX7_there_9 : decode cX7_there 9 = .ok (.ldc 67, 2) := by decide +kernel
theorem dX7_there_11 : decode cX7_there 11 = .ok (.invokevirtual 87, 3) := by decide +kernel
theorem dX7_there_14 : decode cX7_there 14 = .ok (.ireturn, 1) := by decide +kernel
theorem dX7_there_15 : decode cX7_there 15 = .ok (.aload_n 0, 1) := by decide +kernel
theorem dX7_there_16 : decode cX7_there 16 = .ok (.iload_n 1, 1) := by decide +kernel
theorem dX7_there_17 : decode cX7_there 17 = .ok (.invokevirtual 139, 3) := by decide +kernel
theorem dX7_there_20 : decode cX7_there 20 = .ok (.istore_n 3, 1) := by decide +kernel
theorem dX7_there_21 : decode cX7_there 21 = .ok (.aload_n 0, 1) := by decide +kernel
theorem dX7_there_22 : decode cX7_there 22 = .ok (.iload_n 3, 1) := by decide +kernel
theorem dX7_there_23 : decode cX7_there 23 = .ok (.iload_n 2, 1) := by decide +kernel
theorem dX7_there_24 : decode cX7_there 24 = .ok (.invokevirtual 163, 3) := by decide +kernel
theorem dX7_there_27 : decode cX7_there 27 = .ok (.istore 4, 2) := by decide +kernel
theorem dX7_there_29 : decode cX7_there 29 = .ok (.aload_n 0, 1) := by decide +kernel
theorem dX7_there_30 : decode cX7_there 30 = .ok (.iload_n 3, 1) := by decide +kernel
theorem dX7_there_31 : decode cX7_there 31 = .ok (.iload_n 1, 1) := by decide +kernel
theorem dX7_there_32 : decode cX7_there 32 = .ok (.invokevirtual 163, 3) := by decide +kernel
theorem dX7_there_35 : decode cX7_there 35 = .ok (.istore 5, 2) := by decide +kernel
theorem dX7_there_37 : decode cX7_there 37 = .ok (.iload 5, 2) := by decide +kernel
theorem dX7_there_39 : decode cX7_there 39 = .ok (.ifCond .ge 8, 3) := by decide +kernel
theorem dX7_there_42 : decode cX7_there 42 = .ok (.iload 5, 2) := by decide +kernel
theorem dX7_there_44 : decode cX7_there 44 = .ok (.goto 11, 3) := by decide +kernel
theorem dX7_there_47 : decode cX7_there 47 = .ok (.aload_n 0, 1) := by decide +kernel
theorem dX7_there_48 : decode cX7_there 48 = .ok (.iload_n 3, 1) := by decide +kernel
theorem dX7_there_49 : decode cX7_there 49 = .ok (.invokevirtual 142, 3) := by decide +kernel
theorem dX7_there_52 : decode cX7_there 52 = .ok (.iload 4, 2) := by decide +kernel
theorem dX7_there_54 : decode cX7_there 54 = .ok (.isub, 1) := by decide +kernel
theorem dX7_there_55 : decode cX7_there 55 = .ok (.ireturn, 1) := by decide +kernel
theorem dX7_setWith_0 : decode cX7_setWith 0 = .ok (.aload_n 0, 1) := by decide +kernel
theorem dX7_setWith_1 : decode cX7_setWith 1 = .ok (.iload_n 1, 1) := by decide +kernel
theorem dX7_setWith_2 : decode cX7_setWith 2 = .ok (.invokevirtual 139, 3) := by decide +kernel
theorem dX7_setWith_5 : decode cX7_setWith 5 = .ok (.istore_n 3, 1) := by decide +kernel
theorem dX7_setWith_6 : decode cX7_setWith 6 = .ok (.iconst 0, 1) := by decide +kernel
theorem dX7_setWith_7 : decode cX7_setWith 7 = .ok (.istore 4, 2) := by decide +kernel
theorem dX7_setWith_9 : decode cX7_setWith 9 = .ok (.iload 4, 2) := by decide +kernel
theorem dX7_setWith_11 : decode cX7_setWith 11 = .ok (.iload_n 3, 1) := by decide +kernel
theorem dX7_setWith_12 : decode cX7_setWith 12 = .ok (.if_icmp .gt 31, 3) := by decide +kernel
theorem dX7_setWith_15 : decode cX7_setWith 15 = .ok (.iload 4, 2) := by decide +kernel
theorem dX7_setWith_17 : decode cX7_setWith 17 = .ok (.iload_n 3, 1) := by decide +kernel
theorem dX7_setWith_18 : decode cX7_setWith 18 = .ok (.iconst (-1), 1) := by decide +kernel
theorem dX7_setWith_19 : decode cX7_setWith 19 = .ok (.ixor, 1) := by decide +kernel
theorem dX7_setWith_20 : decode cX7_setWith 20 = .ok (.iand, 1) := by decide +kernel
theorem dX7_setWith_21 : decode cX7_setWith 21 = .ok (.ifCond .ne 16, 3) := by decide +kernel
theorem dX7_setWith_24 : decode cX7_setWith 24 = .ok (.aload_n 0, 1) := by decide +kernel
theorem dX7_setWith_25 : decode cX7_setWith 25 = .ok (.iload 4, 2) := by decide +kernel
theorem dX7_setWith_27 : decode cX7_setWith 27 = .ok (.invokevirtual 142, 3) := by decide +kernel
theorem dX7_setWith_30 : decode cX7_setWith 30 = .ok (.iload_n 2, 1) := by decide +kernel
theorem dX7_setWith_31 : decode cX7_setWith 31 = .ok (.if_icmp .ne 6, 3) := by decide +kernel
theorem dX7_setWith_34 : decode cX7_setWith 34 = .ok (.iload 4, 2) := by decide +kernel
theorem dX7_setWith_36 : decode cX7_setWith 36 = .ok (.ireturn, 1) := by decide +kernel
theorem dX7_setWith_37 : decode cX7_setWith 37 = .ok (.iinc 4 1, 3) := by decide +kernel
theorem dX7_setWith_40 : decode cX7_setWith 40 = .ok (.goto (-31), 3) := by decide +kernel
theorem dX7_setWith_43 : decode cX7_setWith 43 = .ok (.iconst (-1), 1) := by decide +kernel
theorem dX7_setWith_44 : decode cX7_setWith 44 = .ok (.ireturn, 1) := by decide +kernel
theorem dX7_isSum_0 : decode cX7_isSum 0 = .ok (.iload_n 0, 1) := by decide +kernel
theorem dX7_isSum_1 : decode cX7_isSum 1 = .ok (.iconst 0, 1) := by decide +kernel
theorem dX7_isSum_2 : decode cX7_isSum 2 = .ok (.sipush 999, 3) := by decide +kernel
theorem dX7_isSum_5 : decode cX7_isSum 5 = .ok (.invokestatic 72, 3) := by decide +kernel
theorem dX7_isSum_8 : decode cX7_isSum 8 = .ok (.ireturn, 1) := by decide +kernel
theorem dX7_can_0 : decode cX7_can 0 = .ok (.iload_n 1, 1) := by decide +kernel
theorem dX7_can_1 : decode cX7_can 1 = .ok (.invokestatic 76, 3) := by decide +kernel
theorem dX7_can_4 : decode cX7_can 4 = .ok (.ifCond .eq 10, 3) := by decide +kernel
theorem dX7_can_7 : decode cX7_can 7 = .ok (.iload_n 2, 1) := by decide +kernel
theorem dX7_can_8 : decode cX7_can 8 = .ok (.invokestatic 166, 3) := by decide +kernel
theorem dX7_can_11 : decode cX7_can 11 = .ok (.ifCond .ne 10, 3) := by decide +kernel
theorem dX7_can_14 : decode cX7_can 14 = .ok (.aload_n 0, 1) := by decide +kernel
theorem dX7_can_15 : decode cX7_can 15 = .ok (.ldc 67, 2) := by decide +kernel
theorem dX7_can_17 : decode cX7_can 17 = .ok (.invokevirtual 87, 3) := by decide +kernel
theorem dX7_can_20 : decode cX7_can 20 = .ok (.ireturn, 1) := by decide +kernel
theorem dX7_can_21 : decode cX7_can 21 = .ok (.aload_n 0, 1) := by decide +kernel
theorem dX7_can_22 : decode cX7_can 22 = .ok (.iload_n 1, 1) := by decide +kernel
theorem dX7_can_23 : decode cX7_can 23 = .ok (.iload_n 2, 1) := by decide +kernel
theorem dX7_can_24 : decode cX7_can 24 = .ok (.invokevirtual 169, 3) := by decide +kernel
theorem dX7_can_27 : decode cX7_can 27 = .ok (.ifCond .ge 7, 3) := by decide +kernel
theorem dX7_can_30 : decode cX7_can 30 = .ok (.iconst 0, 1) := by decide +kernel
theorem dX7_can_31 : decode cX7_can 31 = .ok (.goto 4, 3) := by decide +kernel
theorem dX7_can_34 : decode cX7_can 34 = .ok (.iconst 1, 1) := by decide +kernel
theorem dX7_can_35 : decode cX7_can 35 = .ok (.ireturn, 1) := by decide +kernel
theorem dX7_with_0 : decode cX7_with 0 = .ok (.iload_n 1, 1) := by decide +kernel
theorem dX7_with_1 : decode cX7_with 1 = .ok (.invokestatic 76, 3) := by decide +kernel
theorem dX7_with_4 : decode cX7_with 4 = .ok (.ifCond .eq 10, 3) := by decide +kernel
theorem dX7_with_7 : decode cX7_with 7 = .ok (.iload_n 2, 1) := by decide +kernel
theorem dX7_with_8 : decode cX7_with 8 = .ok (.invokestatic 166, 3) := by decide +kernel
theorem dX7_with_11 : decode cX7_with 11 = .ok (.ifCond .ne 10, 3) := by decide +kernel
theorem dX7_with_14 : decode cX7_with 14 = .ok (.aload_n 0, 1) := by decide +kernel
theorem dX7_with_15 : decode cX7_with 15 = .ok (.ldc 67, 2) := by decide +kernel
theorem dX7_with_17 : decode cX7_with 17 = .ok (.invokevirtual 87, 3) := by decide +kernel
theorem dX7_with_20 : decode cX7_with 20 = .ok (.ireturn, 1) := by decide +kernel
theorem dX7_with_21 : decode cX7_with 21 = .ok (.aload_n 0, 1) := by decide +kernel
theorem dX7_with_22 : decode cX7_with 22 = .ok (.iload_n 1, 1) := by decide +kernel
theorem dX7_with_23 : decode cX7_with 23 = .ok (.iload_n 2, 1) := by decide +kernel
theorem dX7_with_24 : decode cX7_with 24 = .ok (.invokevirtual 169, 3) := by decide +kernel
theorem dX7_with_27 : decode cX7_with 27 = .ok (.istore_n 3, 1) := by decide +kernel
theorem dX7_with_28 : decode cX7_with 28 = .ok (.iload_n 3, 1) := by decide +kernel
theorem dX7_with_29 : decode cX7_with 29 = .ok (.ifCond .ge 12, 3) := by decide +kernel
theorem dX7_with_32 : decode cX7_with 32 = .ok (.aload_n 0, 1) := by decide +kernel
theorem dX7_with_33 : decode cX7_with 33 = .ok (.ldc 172, 2) := by decide +kernel
theorem dX7_with_35 : decode cX7_with 35 = .ok (.invokevirtual 87, 3) := by decide +kernel
theorem dX7_with_38 : decode cX7_with 38 = .ok (.goto 4, 3) := by decide +kernel
theorem dX7_with_41 : decode cX7_with 41 = .ok (.iload_n 3, 1) := by decide +kernel
theorem dX7_with_42 : decode cX7_with 42 = .ok (.ireturn, 1) := by decide +kernel
theorem dX7_clear_0 : decode cX7_clear 0 = .ok (.iconst 0, 1) := by decide +kernel
theorem dX7_clear_1 : decode cX7_clear 1 = .ok (.istore_n 1, 1) := by decide +kernel
theorem dX7_clear_2 : decode cX7_clear 2 = .ok (.iload_n 1, 1) := by decide +kernel
theorem dX7_clear_3 : decode cX7_clear 3 = .ok (.aload_n 0, 1) := by decide +kernel
theorem dX7_clear_4 : decode cX7_clear 4 = .ok (.getfield 22, 3) := by decide +kernel
theorem dX7_clear_7 : decode cX7_clear 7 = .ok (.arraylength, 1) := by decide +kernel
theorem dX7_clear_8 : decode cX7_clear 8 = .ok (.if_icmp .ge 16, 3) := by decide +kernel
theorem dX7_clear_11 : decode cX7_clear 11 = .ok (.aload_n 0, 1) := by decide +kernel
theorem dX7_clear_12 : decode cX7_clear 12 = .ok (.getfield 22, 3) := by decide +kernel
theorem dX7_clear_15 : decode cX7_clear 15 = .ok (.iload_n 1, 1) := by decide +kernel
theorem dX7_clear_16 : decode cX7_clear 16 = .ok (.iconst 0, 1) := by decide +kernel
theorem dX7_clear_17 : decode cX7_clear 17 = .ok (.bastore, 1) := by decide +kernel
theorem dX7_clear_18 : decode cX7_clear 18 = .ok (.iinc 1 1, 3) := by decide +kernel
theorem dX7_clear_21 : decode cX7_clear 21 = .ok (.goto (-19), 3) := by decide +kernel
theorem dX7_clear_24 : decode cX7_clear 24 = .ok (.return_, 1) := by decide +kernel
theorem dX7_findSums_0 : decode cX7_findSums 0 = .ok (.aload_n 0, 1) := by decide +kernel
theorem dX7_findSums_1 : decode cX7_findSums 1 = .ok (.invokevirtual 173, 3) := by decide +kernel
theorem dX7_findSums_4 : decode cX7_findSums 4 = .ok (.aload_n 0, 1) := by decide +kernel
theorem dX7_findSums_5 : decode cX7_findSums 5 = .ok (.iload_n 1, 1) := by decide +kernel
theorem dX7_findSums_6 : decode cX7_findSums 6 = .ok (.invokevirtual 139, 3) := by decide +kernel
theorem dX7_findSums_9 : decode cX7_findSums 9 = .ok (.istore_n 2, 1) := by decide +kernel
theorem dX7_findSums_10 : decode cX7_findSums 10 = .ok (.iconst 0, 1) := by decide +kernel
theorem dX7_findSums_11 : decode cX7_findSums 11 = .ok (.istore_n 3, 1) := by decide +kernel
theorem dX7_findSums_12 : decode cX7_findSums 12 = .ok (.iload_n 3, 1) := by decide +kernel
theorem dX7_findSums_13 : decode cX7_findSums 13 = .ok (.iload_n 2, 1) := by decide +kernel
theorem dX7_findSums_14 : decode cX7_findSums 14 = .ok (.if_icmp .gt 28, 3) := by decide +kernel
theorem dX7_findSums_17 : decode cX7_findSums 17 = .ok (.iload_n 3, 1) := by decide +kernel
theorem dX7_findSums_18 : decode cX7_findSums 18 = .ok (.iload_n 2, 1) := by decide +kernel
theorem dX7_findSums_19 : decode cX7_findSums 19 = .ok (.iconst (-1), 1) := by decide +kernel
theorem dX7_findSums_20 : decode cX7_findSums 20 = .ok (.ixor, 1) := by decide +kernel
theorem dX7_findSums_21 : decode cX7_findSums 21 = .ok (.iand, 1) := by decide +kernel
theorem dX7_findSums_22 : decode cX7_findSums 22 = .ok (.ifCond .ne 14, 3) := by decide +kernel
theorem dX7_findSums_25 : decode cX7_findSums 25 = .ok (.aload_n 0, 1) := by decide +kernel
theorem dX7_findSums_26 : decode cX7_findSums 26 = .ok (.getfield 22, 3) := by decide +kernel
theorem dX7_findSums_29 : decode cX7_findSums 29 = .ok (.aload_n 0, 1) := by decide +kernel
theorem dX7_findSums_30 : decode cX7_findSums 30 = .ok (.iload_n 3, 1) := by decide +kernel
theorem dX7_findSums_31 : decode cX7_findSums 31 = .ok (.invokevirtual 142, 3) := by decide +kernel
theorem dX7_findSums_34 : decode cX7_findSums 34 = .ok (.iconst 1, 1) := by decide +kernel
theorem dX7_findSums_35 : decode cX7_findSums 35 = .ok (.bastore, 1) := by decide +kernel
theorem dX7_findSums_36 : decode cX7_findSums 36 = .ok (.iinc 3 1, 3) := by decide +kernel
theorem dX7_findSums_39 : decode cX7_findSums 39 = .ok (.goto (-27), 3) := by decide +kernel
theorem dX7_findSums_42 : decode cX7_findSums 42 = .ok (.return_, 1) := by decide +kernel
theorem dX7_sums_0 : decode cX7_sums 0 = .ok (.iload_n 1, 1) := by decide +kernel
theorem dX7_sums_1 : decode cX7_sums 1 = .ok (.invokestatic 76, 3) := by decide +kernel
theorem dX7_sums_4 : decode cX7_sums 4 = .ok (.ifCond .ne 10, 3) := by decide +kernel
theorem dX7_sums_7 : decode cX7_sums 7 = .ok (.aload_n 0, 1) := by decide +kernel
theorem dX7_sums_8 : decode cX7_sums 8 = .ok (.ldc 67, 2) := by decide +kernel
theorem dX7_sums_10 : decode cX7_sums 10 = .ok (.invokevirtual 87, 3) := by decide +kernel
theorem dX7_sums_13 : decode cX7_sums 13 = .ok (.ireturn, 1) := by decide +kernel
theorem dX7_sums_14 : decode cX7_sums 14 = .ok (.aload_n 0, 1) := by decide +kernel
theorem dX7_sums_15 : decode cX7_sums 15 = .ok (.iload_n 1, 1) := by decide +kernel
theorem dX7_sums_16 : decode cX7_sums 16 = .ok (.invokevirtual 176, 3) := by decide +kernel
theorem dX7_sums_19 : decode cX7_sums 19 = .ok (.iconst 0, 1) := by decide +kernel
theorem dX7_sums_20 : decode cX7_sums 20 = .ok (.istore_n 2, 1) := by decide +kernel
theorem dX7_sums_21 : decode cX7_sums 21 = .ok (.iconst 0, 1) := by decide +kernel
theorem dX7_sums_22 : decode cX7_sums 22 = .ok (.istore_n 3, 1) := by decide +kernel
theorem dX7_sums_23 : decode cX7_sums 23 = .ok (.iload_n 3, 1) := by decide +kernel
theorem dX7_sums_24 : decode cX7_sums 24 = .ok (.aload_n 0, 1) := by decide +kernel
theorem dX7_sums_25 : decode cX7_sums 25 = .ok (.getfield 22, 3) := by decide +kernel
theorem dX7_sums_28 : decode cX7_sums 28 = .ok (.arraylength, 1) := by decide +kernel
theorem dX7_sums_29 : decode cX7_sums 29 = .ok (.if_icmp .ge 26, 3) := by decide +kernel
theorem dX7_sums_32 : decode cX7_sums 32 = .ok (.iload_n 2, 1) := by decide +kernel
theorem dX7_sums_33 : decode cX7_sums 33 = .ok (.aload_n 0, 1) := by decide +kernel
theorem dX7_sums_34 : decode cX7_sums 34 = .ok (.getfield 22, 3) := by decide +kernel
theorem dX7_sums_37 : decode cX7_sums 37 = .ok (.iload_n 3, 1) := by decide +kernel
theorem dX7_sums_38 : decode cX7_sums 38 = .ok (.baload, 1) := by decide +kernel
theorem dX7_sums_39 : decode cX7_sums 39 = .ok (.ifCond .eq 7, 3) := by decide +kernel
theorem dX7_sums_42 : decode cX7_sums 42 = .ok (.iconst 1, 1) := by decide +kernel
theorem dX7_sums_43 : decode cX7_sums 43 = .ok (.goto 4, 3) := by decide +kernel
theorem dX7_sums_46 : decode cX7_sums 46 = .ok (.iconst 0, 1) := by decide +kernel
theorem dX7_sums_47 : decode cX7_sums 47 = .ok (.iadd, 1) := by decide +kernel
theorem dX7_sums_48 : decode cX7_sums 48 = .ok (.istore_n 2, 1) := by decide +kernel
theorem dX7_sums_49 : decode cX7_sums 49 = .ok (.iinc 3 1, 3) := by decide +kernel
theorem dX7_sums_52 : decode cX7_sums 52 = .ok (.goto (-29), 3) := by decide +kernel
theorem dX7_sums_55 : decode cX7_sums 55 = .ok (.iload_n 2, 1) := by decide +kernel
theorem dX7_sums_56 : decode cX7_sums 56 = .ok (.ireturn, 1) := by decide +kernel
theorem dX7_cannot_0 : decode cX7_cannot 0 = .ok (.iload_n 1, 1) := by decide +kernel
theorem dX7_cannot_1 : decode cX7_cannot 1 = .ok (.invokestatic 76, 3) := by decide +kernel
theorem dX7_cannot_4 : decode cX7_cannot 4 = .ok (.ifCond .ne 10, 3) := by decide +kernel
theorem dX7_cannot_7 : decode cX7_cannot 7 = .ok (.aload_n 0, 1) := by decide +kernel
theorem dX7_cannot_8 : decode cX7_cannot 8 = .ok (.ldc 67, 2) := by decide +kernel
theorem dX7_cannot_10 : decode cX7_cannot 10 = .ok (.invokevirtual 87, 3) := by decide +kernel
theorem dX7_cannot_13 : decode cX7_cannot 13 = .ok (.ireturn, 1) := by decide +kernel
theorem dX7_cannot_14 : decode cX7_cannot 14 = .ok (.aload_n 0, 1) := by decide +kernel
theorem dX7_cannot_15 : decode cX7_cannot 15 = .ok (.iload_n 1, 1) := by decide +kernel
theorem dX7_cannot_16 : decode cX7_cannot 16 = .ok (.invokevirtual 176, 3) := by decide +kernel
theorem dX7_cannot_19 : decode cX7_cannot 19 = .ok (.iconst 1, 1) := by decide +kernel
theorem dX7_cannot_20 : decode cX7_cannot 20 = .ok (.istore_n 2, 1) := by decide +kernel
theorem dX7_cannot_21 : decode cX7_cannot 21 = .ok (.iload_n 2, 1) := by decide +kernel
theorem dX7_cannot_22 : decode cX7_cannot 22 = .ok (.aload_n 0, 1) := by decide +kernel
theorem dX7_cannot_23 : decode cX7_cannot 23 = .ok (.getfield 22, 3) := by decide +kernel
theorem dX7_cannot_26 : decode cX7_cannot 26 = .ok (.arraylength, 1) := by decide +kernel
theorem dX7_cannot_27 : decode cX7_cannot 27 = .ok (.if_icmp .ge 18, 3) := by decide +kernel
theorem dX7_cannot_30 : decode cX7_cannot 30 = .ok (.aload_n 0, 1) := by decide +kernel
theorem dX7_cannot_31 : decode cX7_cannot 31 = .ok (.getfield 22, 3) := by decide +kernel
theorem dX7_cannot_34 : decode cX7_cannot 34 = .ok (.iload_n 2, 1) := by decide +kernel
theorem dX7_cannot_35 : decode cX7_cannot 35 = .ok (.baload, 1) := by decide +kernel
theorem dX7_cannot_36 : decode cX7_cannot 36 = .ok (.ifCond .eq 9, 3) := by decide +kernel
theorem dX7_cannot_39 : decode cX7_cannot 39 = .ok (.iinc 2 1, 3) := by decide +kernel
theorem dX7_cannot_42 : decode cX7_cannot 42 = .ok (.goto (-21), 3) := by decide +kernel
theorem dX7_cannot_45 : decode cX7_cannot 45 = .ok (.iload_n 2, 1) := by decide +kernel
theorem dX7_cannot_46 : decode cX7_cannot 46 = .ok (.ireturn, 1) := by decide +kernel
theorem dX7_bits_0 : decode cX7_bits 0 = .ok (.iconst 0, 1) := by decide +kernel
theorem dX7_bits_1 : decode cX7_bits 1 = .ok (.istore_n 1, 1) := by decide +kernel
theorem dX7_bits_2 : decode cX7_bits 2 = .ok (.iload_n 0, 1) := by decide +kernel
theorem dX7_bits_3 : decode cX7_bits 3 = .ok (.istore_n 2, 1) := by decide +kernel
theorem dX7_bits_4 : decode cX7_bits 4 = .ok (.iload_n 2, 1) := by decide +kernel
theorem dX7_bits_5 : decode cX7_bits 5 = .ok (.ifCond .eq 15, 3) := by decide +kernel
theorem dX7_bits_8 : decode cX7_bits 8 = .ok (.iinc 1 1, 3) := by decide +kernel
theorem dX7_bits_11 : decode cX7_bits 11 = .ok (.iload_n 2, 1) := by decide +kernel
theorem dX7_bits_12 : decode cX7_bits 12 = .ok (.iload_n 2, 1) := by decide +kernel
theorem dX7_bits_13 : decode cX7_bits 13 = .ok (.iconst 1, 1) := by decide +kernel
theorem dX7_bits_14 : decode cX7_bits 14 = .ok (.isub, 1) := by decide +kernel
theorem dX7_bits_15 : decode cX7_bits 15 = .ok (.iand, 1) := by decide +kernel
theorem dX7_bits_16 : decode cX7_bits 16 = .ok (.istore_n 2, 1) := by decide +kernel
theorem dX7_bits_17 : decode cX7_bits 17 = .ok (.goto (-13), 3) := by decide +kernel
theorem dX7_bits_20 : decode cX7_bits 20 = .ok (.iload_n 1, 1) := by decide +kernel
theorem dX7_bits_21 : decode cX7_bits 21 = .ok (.ireturn, 1) := by decide +kernel
theorem dX7_isAhead_0 : decode cX7_isAhead 0 = .ok (.aload_n 0, 1) := by decide +kernel
theorem dX7_isAhead_1 : decode cX7_isAhead 1 = .ok (.getfield 179, 3) := by decide +kernel
theorem dX7_isAhead_4 : decode cX7_isAhead 4 = .ok (.ifCond .lt 11, 3) := by decide +kernel
theorem dX7_isAhead_7 : decode cX7_isAhead 7 = .ok (.iload_n 1, 1) := by decide +kernel
theorem dX7_isAhead_8 : decode cX7_isAhead 8 = .ok (.aload_n 0, 1) := by decide +kernel
theorem dX7_isAhead_9 : decode cX7_isAhead 9 = .ok (.getfield 183, 3) := by decide +kernel
theorem dX7_isAhead_12 : decode cX7_isAhead 12 = .ok (.if_icmp .eq 24, 3) := by decide +kernel
theorem dX7_isAhead_15 : decode cX7_isAhead 15 = .ok (.aload_n 0, 1) := by decide +kernel
theorem dX7_isAhead_16 : decode cX7_isAhead 16 = .ok (.getfield 179, 3) := by decide +kernel
theorem dX7_isAhead_19 : decode cX7_isAhead 19 = .ok (.ifCond .lt 11, 3) := by decide +kernel
theorem dX7_isAhead_22 : decode cX7_isAhead 22 = .ok (.iload_n 1, 1) := by decide +kernel
theorem dX7_isAhead_23 : decode cX7_isAhead 23 = .ok (.aload_n 0, 1) := by decide +kernel
theorem dX7_isAhead_24 : decode cX7_isAhead 24 = .ok (.getfield 183, 3) := by decide +kernel
theorem dX7_isAhead_27 : decode cX7_isAhead 27 = .ok (.if_icmp .ge 7, 3) := by decide +kernel
theorem dX7_isAhead_30 : decode cX7_isAhead 30 = .ok (.iconst 1, 1) := by decide +kernel
theorem dX7_isAhead_31 : decode cX7_isAhead 31 = .ok (.goto 4, 3) := by decide +kernel
theorem dX7_isAhead_34 : decode cX7_isAhead 34 = .ok (.iconst 0, 1) := by decide +kernel
theorem dX7_isAhead_35 : decode cX7_isAhead 35 = .ok (.ireturn, 1) := by decide +kernel
theorem dX7_isAhead_36 : decode cX7_isAhead 36 = .ok (.iload_n 2, 1) := by decide +kernel
theorem dX7_isAhead_37 : decode cX7_isAhead 37 = .ok (.invokestatic 186, 3) := by decide +kernel
theorem dX7_isAhead_40 : decode cX7_isAhead 40 = .ok (.iload_n 3, 1) := by decide +kernel
theorem dX7_isAhead_41 : decode cX7_isAhead 41 = .ok (.invokestatic 186, 3) := by decide +kernel
theorem dX7_isAhead_44 : decode cX7_isAhead 44 = .ok (.iadd, 1) := by decide +kernel
theorem dX7_isAhead_45 : decode cX7_isAhead 45 = .ok (.aload_n 0, 1) := by decide +kernel
theorem dX7_isAhead_46 : decode cX7_isAhead 46 = .ok (.getfield 179, 3) := by decide +kernel
theorem dX7_isAhead_49 : decode cX7_isAhead 49 = .ok (.invokestatic 186, 3) := by decide +kernel
theorem dX7_isAhead_52 : decode cX7_isAhead 52 = .ok (.isub, 1) := by decide +kernel
theorem dX7_isAhead_53 : decode cX7_isAhead 53 = .ok (.aload_n 0, 1) := by decide +kernel
theorem dX7_isAhead_54 : decode cX7_isAhead 54 = .ok (.getfield 189, 3) := by decide +kernel
theorem dX7_isAhead_57 : decode cX7_isAhead 57 = .ok (.invokestatic 186, 3) := by decide +kernel
theorem dX7_isAhead_60 : decode cX7_isAhead 60 = .ok (.isub, 1) := by decide +kernel
theorem dX7_isAhead_61 : decode cX7_isAhead 61 = .ok (.istore 4, 2) := by decide +kernel
theorem dX7_isAhead_63 : decode cX7_isAhead 63 = .ok (.iload 4, 2) := by decide +kernel
theorem dX7_isAhead_65 : decode cX7_isAhead 65 = .ok (.ifCond .eq 16, 3) := by decide +kernel
theorem dX7_isAhead_68 : decode cX7_isAhead 68 = .ok (.iload 4, 2) := by decide +kernel
theorem dX7_isAhead_70 : decode cX7_isAhead 70 = .ok (.ifCond .ge 7, 3) := by decide +kernel
theorem dX7_isAhead_73 : decode cX7_isAhead 73 = .ok (.iconst 1, 1) := by decide +kernel
theorem dX7_isAhead_74 : decode cX7_isAhead 74 = .ok (.goto 44, 3) := by decide +kernel
theorem dX7_isAhead_77 : decode cX7_isAhead 77 = .ok (.iconst 0, 1) := by decide +kernel
theorem dX7_isAhead_78 : decode cX7_isAhead 78 = .ok (.goto 40, 3) := by decide +kernel
theorem dX7_isAhead_81 : decode cX7_isAhead 81 = .ok (.iload_n 2, 1) := by decide +kernel
theorem dX7_isAhead_82 : decode cX7_isAhead 82 = .ok (.aload_n 0, 1) := by decide +kernel
theorem dX7_isAhead_83 : decode cX7_isAhead 83 = .ok (.getfield 179, 3) := by decide +kernel
theorem dX7_isAhead_86 : decode cX7_isAhead 86 = .ok (.if_icmp .eq 19, 3) := by decide +kernel
theorem dX7_isAhead_89 : decode cX7_isAhead 89 = .ok (.iload_n 2, 1) := by decide +kernel
theorem dX7_isAhead_90 : decode cX7_isAhead 90 = .ok (.aload_n 0, 1) := by decide +kernel
theorem dX7_isAhead_91 : decode cX7_isAhead 91 = .ok (.getfield 179, 3) := by decide +kernel
theorem dX7_isAhead_94 : decode cX7_isAhead 94 = .ok (.if_icmp .ge 7, 3) := by decide +kernel
theorem dX7_isAhead_97 : decode cX7_isAhead 97 = .ok (.iconst 1, 1) := by decide +kernel
theorem dX7_isAhead_98 : decode cX7_isAhead 98 = .ok (.goto 20, 3) := by decide +kernel
theorem dX7_isAhead_101 : decode cX7_isAhead 101 = .ok (.iconst 0, 1) := by decide +kernel
theorem dX7_isAhead_102 : decode cX7_isAhead 102 = .ok (.goto 16, 3) := by decide +kernel
theorem dX7_isAhead_105 : decode cX7_isAhead 105 = .ok (.iload_n 3, 1) := by decide +kernel
theorem dX7_isAhead_106 : decode cX7_isAhead 106 = .ok (.aload_n 0, 1) := by decide +kernel
theorem dX7_isAhead_107 : decode cX7_isAhead 107 = .ok (.getfield 189, 3) := by decide +kernel
theorem dX7_isAhead_110 : decode cX7_isAhead 110 = .ok (.if_icmp .ge 7, 3) := by decide +kernel
theorem dX7_isAhead_113 : decode cX7_isAhead 113 = .ok (.iconst 1, 1) := by decide +kernel
theorem dX7_isAhead_114 : decode cX7_isAhead 114 = .ok (.goto 4, 3) := by decide +kernel
theorem dX7_isAhead_117 : decode cX7_isAhead 117 = .ok (.iconst 0, 1) := by decide +kernel
theorem dX7_isAhead_118 : decode cX7_isAhead 118 = .ok (.ireturn, 1) := by decide +kernel
theorem dX7_findBest_0 : decode cX7_findBest 0 = .ok (.aload_n 0, 1) := by decide +kernel
theorem dX7_findBest_1 : decode cX7_findBest 1 = .ok (.iconst (-1), 1) := by decide +kernel
theorem dX7_findBest_2 : decode cX7_findBest 2 = .ok (.putfield 179, 3) := by decide +kernel
theorem dX7_findBest_5 : decode cX7_findBest 5 = .ok (.aload_n 0, 1) := by decide +kernel
theorem dX7_findBest_6 : decode cX7_findBest 6 = .ok (.iload_n 1, 1) := by decide +kernel
theorem dX7_findBest_7 : decode cX7_findBest 7 = .ok (.invokevirtual 139, 3) := by decide +kernel
theorem dX7_findBest_10 : decode cX7_findBest 10 = .ok (.istore 4, 2) := by decide +kernel
theorem dX7_findBest_12 : decode cX7_findBest 12 = .ok (.aload_n 0, 1) := by decide +kernel
theorem dX7_findBest_13 : decode cX7_findBest 13 = .ok (.iload_n 2, 1) := by decide +kernel
theorem dX7_findBest_14 : decode cX7_findBest 14 = .ok (.invokevirtual 139, 3) := by decide +kernel
theorem dX7_findBest_17 : decode cX7_findBest 17 = .ok (.istore 5, 2) := by decide +kernel
theorem dX7_findBest_19 : decode cX7_findBest 19 = .ok (.iconst 0, 1) := by decide +kernel
theorem dX7_findBest_20 : decode cX7_findBest 20 = .ok (.istore 6, 2) := by decide +kernel
theorem dX7_findBest_22 : decode cX7_findBest 22 = .ok (.iload 6, 2) := by decide +kernel
theorem dX7_findBest_24 : decode cX7_findBest 24 = .ok (.iload 4, 2) := by decide +kernel
theorem dX7_findBest_26 : decode cX7_findBest 26 = .ok (.iload 5, 2) := by decide +kernel
theorem dX7_findBest_28 : decode cX7_findBest 28 = .ok (.ior, 1) := by decide +kernel
theorem dX7_findBest_29 : decode cX7_findBest 29 = .ok (.if_icmp .gt 97, 3) := by decide +kernel
theorem dX7_findBest_32 : decode cX7_findBest 32 = .ok (.iload 6, 2) := by decide +kernel
theorem dX7_findBest_34 : decode cX7_findBest 34 = .ok (.iload 4, 2) := by decide +kernel
theorem dX7_findBest_36 : decode cX7_findBest 36 = .ok (.iand, 1) := by decide +kernel
theorem dX7_findBest_37 : decode cX7_findBest 37 = .ok (.istore 7, 2) := by decide +kernel
theorem dX7_findBest_39 : decode cX7_findBest 39 = .ok (.iload 6, 2) := by decide +kernel
theorem dX7_findBest_41 : decode cX7_findBest 41 = .ok (.iload 5, 2) := by decide +kernel
theorem dX7_findBest_43 : decode cX7_findBest 43 = .ok (.iand, 1) := by decide +kernel
theorem dX7_findBest_44 : decode cX7_findBest 44 = .ok (.istore 8, 2) := by decide +kernel
theorem dX7_findBest_46 : decode cX7_findBest 46 = .ok (.iload 7, 2) := by decide +kernel
theorem dX7_findBest_48 : decode cX7_findBest 48 = .ok (.iload 8, 2) := by decide +kernel
theorem dX7_findBest_50 : decode cX7_findBest 50 = .ok (.ior, 1) := by decide +kernel
theorem dX7_findBest_51 : decode cX7_findBest 51 = .ok (.iload 6, 2) := by decide +kernel
theorem dX7_findBest_53 : decode cX7_findBest 53 = .ok (.if_icmp .ne 67, 3) := by decide +kernel
theorem dX7_findBest_56 : decode cX7_findBest 56 = .ok (.aload_n 0, 1) := by decide +kernel
theorem dX7_findBest_57 : decode cX7_findBest 57 = .ok (.iload 7, 2) := by decide +kernel
theorem dX7_findBest_59 : decode cX7_findBest 59 = .ok (.invokevirtual 142, 3) := by decide +kernel
theorem dX7_findBest_62 : decode cX7_findBest 62 = .ok (.aload_n 0, 1) := by decide +kernel
theorem dX7_findBest_63 : decode cX7_findBest 63 = .ok (.iload 8, 2) := by decide +kernel
theorem dX7_findBest_65 : decode cX7_findBest 65 = .ok (.invokevirtual 142, 3) := by decide +kernel
theorem dX7_findBest_68 : decode cX7_findBest 68 = .ok (.isub, 1) := by decide +kernel
theorem dX7_findBest_69 : decode cX7_findBest 69 = .ok (.iload_n 3, 1) := by decide +kernel
theorem dX7_findBest_70 : decode cX7_findBest 70 = .ok (.if_icmp .ne 50, 3) := by decide +kernel
theorem dX7_findBest_73 : decode cX7_findBest 73 = .ok (.aload_n 0, 1) := by decide +kernel
theorem dX7_findBest_74 : decode cX7_findBest 74 = .ok (.iload 7, 2) := by decide +kernel
theorem dX7_findBest_76 : decode cX7_findBest 76 = .ok (.invokevirtual 142, 3) := by decide +kernel
theorem dX7_findBest_79 : decode cX7_findBest 79 = .ok (.aload_n 0, 1) := by decide +kernel
theorem dX7_findBest_80 : decode cX7_findBest 80 = .ok (.iload 8, 2) := by decide +kernel
theorem dX7_findBest_82 : decode cX7_findBest 82 = .ok (.iload_n 1, 1) := by decide +kernel
theorem dX7_findBest_83 : decode cX7_findBest 83 = .ok (.invokevirtual 149, 3) := by decide +kernel
theorem dX7_findBest_86 : decode cX7_findBest 86 = .ok (.isub, 1) := by decide +kernel
theorem dX7_findBest_87 : decode cX7_findBest 87 = .ok (.istore 9, 2) := by decide +kernel
theorem dX7_findBest_89 : decode cX7_findBest 89 = .ok (.aload_n 0, 1) := by decide +kernel
theorem dX7_findBest_90 : decode cX7_findBest 90 = .ok (.iload 9, 2) := by decide +kernel
theorem dX7_findBest_92 : decode cX7_findBest 92 = .ok (.iload 7, 2) := by decide +kernel
theorem dX7_findBest_94 : decode cX7_findBest 94 = .ok (.iload 8, 2) := by decide +kernel
theorem dX7_findBest_96 : decode cX7_findBest 96 = .ok (.invokevirtual 192, 3) := by decide +kernel
theorem dX7_findBest_99 : decode cX7_findBest 99 = .ok (.ifCond .eq 21, 3) := by decide +kernel
theorem dX7_findBest_102 : decode cX7_findBest 102 = .ok (.aload_n 0, 1) := by decide +kernel
theorem dX7_findBest_103 : decode cX7_findBest 103 = .ok (.iload 9, 2) := by decide +kernel
theorem dX7_findBest_105 : decode cX7_findBest 105 = .ok (.putfield 183, 3) := by decide +kernel
theorem dX7_findBest_108 : decode cX7_findBest 108 = .ok (.aload_n 0, 1) := by decide +kernel
theorem dX7_findBest_109 : decode cX7_findBest 109 = .ok (.iload 7, 2) := by decide +kernel
theorem dX7_findBest_111 : decode cX7_findBest 111 = .ok (.putfield 179, 3) := by decide +kernel
theorem dX7_findBest_114 : decode cX7_findBest 114 = .ok (.aload_n 0, 1) := by decide +kernel
theorem dX7_findBest_115 : decode cX7_findBest 115 = .ok (.iload 8, 2) := by decide +kernel
theorem dX7_findBest_117 : decode cX7_findBest 117 = .ok (.putfield 189, 3) := by decide +kernel
theorem dX7_findBest_120 : decode cX7_findBest 120 = .ok (.iinc 6 1, 3) := by decide +kernel
theorem dX7_findBest_123 : decode cX7_findBest 123 = .ok (.goto (-101), 3) := by decide +kernel
theorem dX7_findBest_126 : decode cX7_findBest 126 = .ok (.aload_n 0, 1) := by decide +kernel
theorem dX7_findBest_127 : decode cX7_findBest 127 = .ok (.getfield 179, 3) := by decide +kernel
theorem dX7_findBest_130 : decode cX7_findBest 130 = .ok (.ifCond .lt 7, 3) := by decide +kernel
theorem dX7_findBest_133 : decode cX7_findBest 133 = .ok (.iconst 1, 1) := by decide +kernel
theorem dX7_findBest_134 : decode cX7_findBest 134 = .ok (.goto 4, 3) := by decide +kernel
theorem dX7_findBest_137 : decode cX7_findBest 137 = .ok (.iconst 0, 1) := by decide +kernel
theorem dX7_findBest_138 : decode cX7_findBest 138 = .ok (.ireturn, 1) := by decide +kernel
theorem dX7_refuses_0 : decode cX7_refuses 0 = .ok (.iload_n 1, 1) := by decide +kernel
theorem dX7_refuses_1 : decode cX7_refuses 1 = .ok (.iload_n 2, 1) := by decide +kernel
theorem dX7_refuses_2 : decode cX7_refuses 2 = .ok (.invokestatic 159, 3) := by decide +kernel
theorem dX7_refuses_5 : decode cX7_refuses 5 = .ok (.ifCond .eq 10, 3) := by decide +kernel
theorem dX7_refuses_8 : decode cX7_refuses 8 = .ok (.iload_n 3, 1) := by decide +kernel
theorem dX7_refuses_9 : decode cX7_refuses 9 = .ok (.invokestatic 166, 3) := by decide +kernel
theorem dX7_refuses_12 : decode cX7_refuses 12 = .ok (.ifCond .ne 8, 3) := by decide +kernel
theorem dX7_refuses_15 : decode cX7_refuses 15 = .ok (.ldc 67, 2) := by decide +kernel
theorem dX7_refuses_17 : decode cX7_refuses 17 = .ok (.goto 19, 3) := by decide +kernel
theorem dX7_refuses_20 : decode cX7_refuses 20 = .ok (.aload_n 0, 1) := by decide +kernel
theorem dX7_refuses_21 : decode cX7_refuses 21 = .ok (.iload_n 1, 1) := by decide +kernel
theorem dX7_refuses_22 : decode cX7_refuses 22 = .ok (.iload_n 2, 1) := by decide +kernel
theorem dX7_refuses_23 : decode cX7_refuses 23 = .ok (.iload_n 3, 1) := by decide +kernel
theorem dX7_refuses_24 : decode cX7_refuses 24 = .ok (.invokevirtual 195, 3) := by decide +kernel
theorem dX7_refuses_27 : decode cX7_refuses 27 = .ok (.ifCond .eq 7, 3) := by decide +kernel
theorem dX7_refuses_30 : decode cX7_refuses 30 = .ok (.iconst 0, 1) := by decide +kernel
theorem dX7_refuses_31 : decode cX7_refuses 31 = .ok (.goto 5, 3) := by decide +kernel
theorem dX7_refuses_34 : decode cX7_refuses 34 = .ok (.ldc 172, 2) := by decide +kernel
theorem dX7_refuses_36 : decode cX7_refuses 36 = .ok (.ireturn, 1) := by decide +kernel
theorem dX7_cost_0 : decode cX7_cost 0 = .ok (.aload_n 0, 1) := by decide +kernel
theorem dX7_cost_1 : decode cX7_cost 1 = .ok (.iload_n 1, 1) := by decide +kernel
theorem dX7_cost_2 : decode cX7_cost 2 = .ok (.iload_n 2, 1) := by decide +kernel
theorem dX7_cost_3 : decode cX7_cost 3 = .ok (.iload_n 3, 1) := by decide +kernel
theorem dX7_cost_4 : decode cX7_cost 4 = .ok (.invokevirtual 198, 3) := by decide +kernel
theorem dX7_cost_7 : decode cX7_cost 7 = .ok (.istore 4, 2) := by decide +kernel
theorem dX7_cost_9 : decode cX7_cost 9 = .ok (.iload 4, 2) := by decide +kernel
theorem dX7_cost_11 : decode cX7_cost 11 = .ok (.ifCond .eq 12, 3) := by decide +kernel
theorem dX7_cost_14 : decode cX7_cost 14 = .ok (.aload_n 0, 1) := by decide +kernel
theorem dX7_cost_15 : decode cX7_cost 15 = .ok (.iload 4, 2) := by decide +kernel
theorem dX7_cost_17 : decode cX7_cost 17 = .ok (.invokevirtual 87, 3) := by decide +kernel
theorem dX7_cost_20 : decode cX7_cost 20 = .ok (.goto 7, 3) := by decide +kernel
theorem dX7_cost_23 : decode cX7_cost 23 = .ok (.aload_n 0, 1) := by decide +kernel
theorem dX7_cost_24 : decode cX7_cost 24 = .ok (.getfield 183, 3) := by decide +kernel
theorem dX7_cost_27 : decode cX7_cost 27 = .ok (.ireturn, 1) := by decide +kernel
theorem dX7_given_0 : decode cX7_given 0 = .ok (.aload_n 0, 1) := by decide +kernel
theorem dX7_given_1 : decode cX7_given 1 = .ok (.iload_n 1, 1) := by decide +kernel
theorem dX7_given_2 : decode cX7_given 2 = .ok (.iload_n 2, 1) := by decide +kernel
theorem dX7_given_3 : decode cX7_given 3 = .ok (.iload_n 3, 1) := by decide +kernel
theorem dX7_given_4 : decode cX7_given 4 = .ok (.invokevirtual 198, 3) := by decide +kernel
theorem dX7_given_7 : decode cX7_given 7 = .ok (.istore 4, 2) := by decide +kernel
theorem dX7_given_9 : decode cX7_given 9 = .ok (.iload 4, 2) := by decide +kernel
theorem dX7_given_11 : decode cX7_given 11 = .ok (.ifCond .eq 12, 3) := by decide +kernel
theorem dX7_given_14 : decode cX7_given 14 = .ok (.aload_n 0, 1) := by decide +kernel
theorem dX7_given_15 : decode cX7_given 15 = .ok (.iload 4, 2) := by decide +kernel
theorem dX7_given_17 : decode cX7_given 17 = .ok (.invokevirtual 87, 3) := by decide +kernel
theorem dX7_given_20 : decode cX7_given 20 = .ok (.goto 7, 3) := by decide +kernel
theorem dX7_given_23 : decode cX7_given 23 = .ok (.aload_n 0, 1) := by decide +kernel
theorem dX7_given_24 : decode cX7_given 24 = .ok (.getfield 179, 3) := by decide +kernel
theorem dX7_given_27 : decode cX7_given 27 = .ok (.ireturn, 1) := by decide +kernel
theorem dX7_back_0 : decode cX7_back 0 = .ok (.aload_n 0, 1) := by decide +kernel
theorem dX7_back_1 : decode cX7_back 1 = .ok (.iload_n 1, 1) := by decide +kernel
theorem dX7_back_2 : decode cX7_back 2 = .ok (.iload_n 2, 1) := by decide +kernel
theorem dX7_back_3 : decode cX7_back 3 = .ok (.iload_n 3, 1) := by decide +kernel
theorem dX7_back_4 : decode cX7_back 4 = .ok (.invokevirtual 198, 3) := by decide +kernel
theorem dX7_back_7 : decode cX7_back 7 = .ok (.istore 4, 2) := by decide +kernel
theorem dX7_back_9 : decode cX7_back 9 = .ok (.iload 4, 2) := by decide +kernel
theorem dX7_back_11 : decode cX7_back 11 = .ok (.ifCond .eq 12, 3) := by decide +kernel
theorem dX7_back_14 : decode cX7_back 14 = .ok (.aload_n 0, 1) := by decide +kernel
theorem dX7_back_15 : decode cX7_back 15 = .ok (.iload 4, 2) := by decide +kernel
theorem dX7_back_17 : decode cX7_back 17 = .ok (.invokevirtual 87, 3) := by decide +kernel
theorem dX7_back_20 : decode cX7_back 20 = .ok (.goto 7, 3) := by decide +kernel
theorem dX7_back_23 : decode cX7_back 23 = .ok (.aload_n 0, 1) := by decide +kernel
theorem dX7_back_24 : decode cX7_back 24 = .ok (.getfield 189, 3) := by decide +kernel
theorem dX7_back_27 : decode cX7_back 27 = .ok (.ireturn, 1) := by decide +kernel
theorem dX7_bothPaid_0 : decode cX7_bothPaid 0 = .ok (.aload_n 0, 1) := by decide +kernel
theorem dX7_bothPaid_1 : decode cX7_bothPaid 1 = .ok (.getfield 179, 3) := by decide +kernel
theorem dX7_bothPaid_4 : decode cX7_bothPaid 4 = .ok (.istore_n 3, 1) := by decide +kernel
theorem dX7_bothPaid_5 : decode cX7_bothPaid 5 = .ok (.aload_n 0, 1) := by decide +kernel
theorem dX7_bothPaid_6 : decode cX7_bothPaid 6 = .ok (.getfield 189, 3) := by decide +kernel
theorem dX7_bothPaid_9 : decode cX7_bothPaid 9 = .ok (.istore 4, 2) := by decide +kernel
theorem dX7_bothPaid_11 : decode cX7_bothPaid 11 = .ok (.aload_n 0, 1) := by decide +kernel
theorem dX7_bothPaid_12 : decode cX7_bothPaid 12 = .ok (.iload_n 3, 1) := by decide +kernel
theorem dX7_bothPaid_13 : decode cX7_bothPaid 13 = .ok (.iload_n 2, 1) := by decide +kernel
theorem dX7_bothPaid_14 : decode cX7_bothPaid 14 = .ok (.invokevirtual 163, 3) := by decide +kernel
theorem dX7_bothPaid_17 : decode cX7_bothPaid 17 = .ok (.aload_n 0, 1) := by decide +kernel
theorem dX7_bothPaid_18 : decode cX7_bothPaid 18 = .ok (.iload 4, 2) := by decide +kernel
theorem dX7_bothPaid_20 : decode cX7_bothPaid 20 = .ok (.iload_n 1, 1) := by decide +kernel
theorem dX7_bothPaid_21 : decode cX7_bothPaid 21 = .ok (.invokevirtual 163, 3) := by decide +kernel
theorem dX7_bothPaid_24 : decode cX7_bothPaid 24 = .ok (.iadd, 1) := by decide +kernel
theorem dX7_bothPaid_25 : decode cX7_bothPaid 25 = .ok (.istore 5, 2) := by decide +kernel
theorem dX7_bothPaid_27 : decode cX7_bothPaid 27 = .ok (.aload_n 0, 1) := by decide +kernel
theorem dX7_bothPaid_28 : decode cX7_bothPaid 28 = .ok (.dup, 1) := by decide +kernel
theorem dX7_bothPaid_29 : decode cX7_bothPaid 29 = .ok (.getfield 183, 3) := by decide +kernel
theorem dX7_bothPaid_32 : decode cX7_bothPaid 32 = .ok (.iload 5, 2) := by decide +kernel
theorem dX7_bothPaid_34 : decode cX7_bothPaid 34 = .ok (.ifCond .ge 8, 3) := by decide +kernel
theorem dX7_bothPaid_37 : decode cX7_bothPaid 37 = .ok (.iload 5, 2) := by decide +kernel
theorem dX7_bothPaid_39 : decode cX7_bothPaid 39 = .ok (.goto 4, 3) := by decide +kernel
theorem dX7_bothPaid_42 : decode cX7_bothPaid 42 = .ok (.iconst 0, 1) := by decide +kernel
theorem dX7_bothPaid_43 : decode cX7_bothPaid 43 = .ok (.iadd, 1) := by decide +kernel
theorem dX7_bothPaid_44 : decode cX7_bothPaid 44 = .ok (.putfield 183, 3) := by decide +kernel
theorem dX7_bothPaid_47 : decode cX7_bothPaid 47 = .ok (.return_, 1) := by decide +kernel
theorem dX7_buy_0 : decode cX7_buy 0 = .ok (.aload_n 0, 1) := by decide +kernel
theorem dX7_buy_1 : decode cX7_buy 1 = .ok (.iload_n 1, 1) := by decide +kernel
theorem dX7_buy_2 : decode cX7_buy 2 = .ok (.iload_n 2, 1) := by decide +kernel
theorem dX7_buy_3 : decode cX7_buy 3 = .ok (.iload_n 3, 1) := by decide +kernel
theorem dX7_buy_4 : decode cX7_buy 4 = .ok (.invokevirtual 198, 3) := by decide +kernel
theorem dX7_buy_7 : decode cX7_buy 7 = .ok (.istore 4, 2) := by decide +kernel
theorem dX7_buy_9 : decode cX7_buy 9 = .ok (.iload 4, 2) := by decide +kernel
theorem dX7_buy_11 : decode cX7_buy 11 = .ok (.ifCond .eq 10, 3) := by decide +kernel
theorem dX7_buy_14 : decode cX7_buy 14 = .ok (.aload_n 0, 1) := by decide +kernel
theorem dX7_buy_15 : decode cX7_buy 15 = .ok (.iload 4, 2) := by decide +kernel
theorem dX7_buy_17 : decode cX7_buy 17 = .ok (.invokevirtual 87, 3) := by decide +kernel
theorem dX7_buy_20 : decode cX7_buy 20 = .ok (.ireturn, 1) := by decide +kernel
theorem dX7_buy_21 : decode cX7_buy 21 = .ok (.aload_n 0, 1) := by decide +kernel
theorem dX7_buy_22 : decode cX7_buy 22 = .ok (.iload_n 1, 1) := by decide +kernel
theorem dX7_buy_23 : decode cX7_buy 23 = .ok (.iload_n 2, 1) := by decide +kernel
theorem dX7_buy_24 : decode cX7_buy 24 = .ok (.invokevirtual 202, 3) := by decide +kernel
theorem dX7_buy_27 : decode cX7_buy 27 = .ok (.aload_n 0, 1) := by decide +kernel
theorem dX7_buy_28 : decode cX7_buy 28 = .ok (.getfield 183, 3) := by decide +kernel
theorem dX7_buy_31 : decode cX7_buy 31 = .ok (.ireturn, 1) := by decide +kernel
theorem dX7_fewest_0 : decode cX7_fewest 0 = .ok (.iload_n 1, 1) := by decide +kernel
