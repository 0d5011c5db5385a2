theorem dX7_fewest_1 : decode cX7_fewest 1 = .ok (.iload_n 2, 1) := by decide +kernel
theorem dX7_fewest_2 : decode cX7_fewest 2 = .ok (.invokestatic 159, 3) := by decide +kernel
theorem dX7_fewest_5 : decode cX7_fewest 5 = .ok (.ifCond .eq 10, 3) := by decide +kernel
theorem dX7_fewest_8 : decode cX7_fewest 8 = .ok (.iload_n 3, 1) := by decide +kernel
theorem dX7_fewest_9 : decode cX7_fewest 9 = .ok (.invokestatic 166, 3) := by decide +kernel
theorem dX7_fewest_12 : decode cX7_fewest 12 = .ok (.ifCond .ne 10, 3) := by decide +kernel
theorem dX7_fewest_15 : decode cX7_fewest 15 = .ok (.aload_n 0, 1) := by decide +kernel
theorem dX7_fewest_16 : decode cX7_fewest 16 = .ok (.ldc 67, 2) := by decide +kernel
theorem dX7_fewest_18 : decode cX7_fewest 18 = .ok (.invokevirtual 87, 3) := by decide +kernel
theorem dX7_fewest_21 : decode cX7_fewest 21 = .ok (.ireturn, 1) := by decide +kernel
theorem dX7_fewest_22 : decode cX7_fewest 22 = .ok (.aload_n 0, 1) := by decide +kernel
theorem dX7_fewest_23 : decode cX7_fewest 23 = .ok (.iload_n 1, 1) := by decide +kernel
theorem dX7_fewest_24 : decode cX7_fewest 24 = .ok (.invokevirtual 139, 3) := by decide +kernel
theorem dX7_fewest_27 : decode cX7_fewest 27 = .ok (.istore 4, 2) := by decide +kernel
theorem dX7_fewest_29 : decode cX7_fewest 29 = .ok (.aload_n 0, 1) := by decide +kernel
theorem dX7_fewest_30 : decode cX7_fewest 30 = .ok (.iload_n 2, 1) := by decide +kernel
theorem dX7_fewest_31 : decode cX7_fewest 31 = .ok (.invokevirtual 139, 3) := by decide +kernel
theorem dX7_fewest_34 : decode cX7_fewest 34 = .ok (.istore 5, 2) := by decide +kernel
theorem dX7_fewest_36 : decode cX7_fewest 36 = .ok (.bipush 11, 2) := by decide +kernel
theorem dX7_fewest_38 : decode cX7_fewest 38 = .ok (.istore 6, 2) := by decide +kernel
theorem dX7_fewest_40 : decode cX7_fewest 40 = .ok (.iconst 0, 1) := by decide +kernel
theorem dX7_fewest_41 : decode cX7_fewest 41 = .ok (.istore 7, 2) := by decide +kernel
theorem dX7_fewest_43 : decode cX7_fewest 43 = .ok (.iload 7, 2) := by decide +kernel
theorem dX7_fewest_45 : decode cX7_fewest 45 = .ok (.iload 4, 2) := by decide +kernel
theorem dX7_fewest_47 : decode cX7_fewest 47 = .ok (.iload 5, 2) := by decide +kernel
theorem dX7_fewest_49 : decode cX7_fewest 49 = .ok (.ior, 1) := by decide +kernel
theorem dX7_fewest_50 : decode cX7_fewest 50 = .ok (.if_icmp .gt 74, 3) := by decide +kernel
theorem dX7_fewest_53 : decode cX7_fewest 53 = .ok (.iload 7, 2) := by decide +kernel
theorem dX7_fewest_55 : decode cX7_fewest 55 = .ok (.iload 4, 2) := by decide +kernel
theorem dX7_fewest_57 : decode cX7_fewest 57 = .ok (.iload 5, 2) := by decide +kernel
theorem dX7_fewest_59 : decode cX7_fewest 59 = .ok (.ior, 1) := by decide +kernel
theorem dX7_fewest_60 : decode cX7_fewest 60 = .ok (.iconst (-1), 1) := by decide +kernel
theorem dX7_fewest_61 : decode cX7_fewest 61 = .ok (.ixor, 1) := by decide +kernel
theorem dX7_fewest_62 : decode cX7_fewest 62 = .ok (.iand, 1) := by decide +kernel
theorem dX7_fewest_63 : decode cX7_fewest 63 = .ok (.ifCond .ne 30, 3) := by decide +kernel
theorem dX7_fewest_66 : decode cX7_fewest 66 = .ok (.aload_n 0, 1) := by decide +kernel
theorem dX7_fewest_67 : decode cX7_fewest 67 = .ok (.iload 7, 2) := by decide +kernel
theorem dX7_fewest_69 : decode cX7_fewest 69 = .ok (.iload 4, 2) := by decide +kernel
theorem dX7_fewest_71 : decode cX7_fewest 71 = .ok (.iand, 1) := by decide +kernel
theorem dX7_fewest_72 : decode cX7_fewest 72 = .ok (.invokevirtual 142, 3) := by decide +kernel
theorem dX7_fewest_75 : decode cX7_fewest 75 = .ok (.aload_n 0, 1) := by decide +kernel
theorem dX7_fewest_76 : decode cX7_fewest 76 = .ok (.iload 7, 2) := by decide +kernel
theorem dX7_fewest_78 : decode cX7_fewest 78 = .ok (.iload 5, 2) := by decide +kernel
theorem dX7_fewest_80 : decode cX7_fewest 80 = .ok (.iand, 1) := by decide +kernel
theorem dX7_fewest_81 : decode cX7_fewest 81 = .ok (.invokevirtual 142, 3) := by decide +kernel
theorem dX7_fewest_84 : decode cX7_fewest 84 = .ok (.isub, 1) := by decide +kernel
theorem dX7_fewest_85 : decode cX7_fewest 85 = .ok (.iload_n 3, 1) := by decide +kernel
theorem dX7_fewest_86 : decode cX7_fewest 86 = .ok (.if_icmp .ne 7, 3) := by decide +kernel
theorem dX7_fewest_89 : decode cX7_fewest 89 = .ok (.iconst 1, 1) := by decide +kernel
theorem dX7_fewest_90 : decode cX7_fewest 90 = .ok (.goto 4, 3) := by decide +kernel
theorem dX7_fewest_93 : decode cX7_fewest 93 = .ok (.iconst 0, 1) := by decide +kernel
theorem dX7_fewest_94 : decode cX7_fewest 94 = .ok (.istore 8, 2) := by decide +kernel
theorem dX7_fewest_96 : decode cX7_fewest 96 = .ok (.iload 8, 2) := by decide +kernel
theorem dX7_fewest_98 : decode cX7_fewest 98 = .ok (.ifCond .eq 16, 3) := by decide +kernel
theorem dX7_fewest_101 : decode cX7_fewest 101 = .ok (.iload 6, 2) := by decide +kernel
theorem dX7_fewest_103 : decode cX7_fewest 103 = .ok (.iload 7, 2) := by decide +kernel
theorem dX7_fewest_105 : decode cX7_fewest 105 = .ok (.invokestatic 186, 3) := by decide +kernel
theorem dX7_fewest_108 : decode cX7_fewest 108 = .ok (.invokestatic 205, 3) := by decide +kernel
theorem dX7_fewest_111 : decode cX7_fewest 111 = .ok (.goto 5, 3) := by decide +kernel
theorem dX7_fewest_114 : decode cX7_fewest 114 = .ok (.iload 6, 2) := by decide +kernel
theorem dX7_fewest_116 : decode cX7_fewest 116 = .ok (.istore 6, 2) := by decide +kernel
theorem dX7_fewest_118 : decode cX7_fewest 118 = .ok (.iinc 7 1, 3) := by decide +kernel
theorem dX7_fewest_121 : decode cX7_fewest 121 = .ok (.goto (-78), 3) := by decide +kernel
theorem dX7_fewest_124 : decode cX7_fewest 124 = .ok (.iload 6, 2) := by decide +kernel
theorem dX7_fewest_126 : decode cX7_fewest 126 = .ok (.bipush 10, 2) := by decide +kernel
theorem dX7_fewest_128 : decode cX7_fewest 128 = .ok (.if_icmp .le 12, 3) := by decide +kernel
theorem dX7_fewest_131 : decode cX7_fewest 131 = .ok (.aload_n 0, 1) := by decide +kernel
theorem dX7_fewest_132 : decode cX7_fewest 132 = .ok (.ldc 172, 2) := by decide +kernel
theorem dX7_fewest_134 : decode cX7_fewest 134 = .ok (.invokevirtual 87, 3) := by decide +kernel
theorem dX7_fewest_137 : decode cX7_fewest 137 = .ok (.goto 5, 3) := by decide +kernel
theorem dX7_fewest_140 : decode cX7_fewest 140 = .ok (.iload 6, 2) := by decide +kernel
theorem dX7_fewest_142 : decode cX7_fewest 142 = .ok (.ireturn, 1) := by decide +kernel
theorem dX7_dearth_0 : decode cX7_dearth 0 = .ok (.iload_n 1, 1) := by decide +kernel
theorem dX7_dearth_1 : decode cX7_dearth 1 = .ok (.iload_n 2, 1) := by decide +kernel
theorem dX7_dearth_2 : decode cX7_dearth 2 = .ok (.invokestatic 159, 3) := by decide +kernel
theorem dX7_dearth_5 : decode cX7_dearth 5 = .ok (.ifCond .ne 10, 3) := by decide +kernel
theorem dX7_dearth_8 : decode cX7_dearth 8 = .ok (.aload_n 0, 1) := by decide +kernel
theorem dX7_dearth_9 : decode cX7_dearth 9 = .ok (.ldc 67, 2) := by decide +kernel
theorem dX7_dearth_11 : decode cX7_dearth 11 = .ok (.invokevirtual 87, 3) := by decide +kernel
theorem dX7_dearth_14 : decode cX7_dearth 14 = .ok (.ireturn, 1) := by decide +kernel
theorem dX7_dearth_15 : decode cX7_dearth 15 = .ok (.aload_n 0, 1) := by decide +kernel
theorem dX7_dearth_16 : decode cX7_dearth 16 = .ok (.invokevirtual 173, 3) := by decide +kernel
theorem dX7_dearth_19 : decode cX7_dearth 19 = .ok (.aload_n 0, 1) := by decide +kernel
theorem dX7_dearth_20 : decode cX7_dearth 20 = .ok (.iload_n 1, 1) := by decide +kernel
theorem dX7_dearth_21 : decode cX7_dearth 21 = .ok (.invokevirtual 139, 3) := by decide +kernel
theorem dX7_dearth_24 : decode cX7_dearth 24 = .ok (.istore_n 3, 1) := by decide +kernel
theorem dX7_dearth_25 : decode cX7_dearth 25 = .ok (.aload_n 0, 1) := by decide +kernel
theorem dX7_dearth_26 : decode cX7_dearth 26 = .ok (.iload_n 2, 1) := by decide +kernel
theorem dX7_dearth_27 : decode cX7_dearth 27 = .ok (.invokevirtual 139, 3) := by decide +kernel
theorem dX7_dearth_30 : decode cX7_dearth 30 = .ok (.istore 4, 2) := by decide +kernel
theorem dX7_dearth_32 : decode cX7_dearth 32 = .ok (.iconst 0, 1) := by decide +kernel
theorem dX7_dearth_33 : decode cX7_dearth 33 = .ok (.istore 5, 2) := by decide +kernel
theorem dX7_dearth_35 : decode cX7_dearth 35 = .ok (.iload 5, 2) := by decide +kernel
theorem dX7_dearth_37 : decode cX7_dearth 37 = .ok (.iload_n 3, 1) := by decide +kernel
theorem dX7_dearth_38 : decode cX7_dearth 38 = .ok (.iload 4, 2) := by decide +kernel
theorem dX7_dearth_40 : decode cX7_dearth 40 = .ok (.ior, 1) := by decide +kernel
theorem dX7_dearth_41 : decode cX7_dearth 41 = .ok (.if_icmp .gt 54, 3) := by decide +kernel
theorem dX7_dearth_44 : decode cX7_dearth 44 = .ok (.aload_n 0, 1) := by decide +kernel
theorem dX7_dearth_45 : decode cX7_dearth 45 = .ok (.iload 5, 2) := by decide +kernel
theorem dX7_dearth_47 : decode cX7_dearth 47 = .ok (.iload_n 3, 1) := by decide +kernel
theorem dX7_dearth_48 : decode cX7_dearth 48 = .ok (.iand, 1) := by decide +kernel
theorem dX7_dearth_49 : decode cX7_dearth 49 = .ok (.invokevirtual 142, 3) := by decide +kernel
theorem dX7_dearth_52 : decode cX7_dearth 52 = .ok (.aload_n 0, 1) := by decide +kernel
theorem dX7_dearth_53 : decode cX7_dearth 53 = .ok (.iload 5, 2) := by decide +kernel
theorem dX7_dearth_55 : decode cX7_dearth 55 = .ok (.iload 4, 2) := by decide +kernel
theorem dX7_dearth_57 : decode cX7_dearth 57 = .ok (.iand, 1) := by decide +kernel
theorem dX7_dearth_58 : decode cX7_dearth 58 = .ok (.invokevirtual 142, 3) := by decide +kernel
theorem dX7_dearth_61 : decode cX7_dearth 61 = .ok (.isub, 1) := by decide +kernel
theorem dX7_dearth_62 : decode cX7_dearth 62 = .ok (.istore 6, 2) := by decide +kernel
theorem dX7_dearth_64 : decode cX7_dearth 64 = .ok (.iload 5, 2) := by decide +kernel
theorem dX7_dearth_66 : decode cX7_dearth 66 = .ok (.iload_n 3, 1) := by decide +kernel
theorem dX7_dearth_67 : decode cX7_dearth 67 = .ok (.iload 4, 2) := by decide +kernel
theorem dX7_dearth_69 : decode cX7_dearth 69 = .ok (.ior, 1) := by decide +kernel
theorem dX7_dearth_70 : decode cX7_dearth 70 = .ok (.iconst (-1), 1) := by decide +kernel
theorem dX7_dearth_71 : decode cX7_dearth 71 = .ok (.ixor, 1) := by decide +kernel
theorem dX7_dearth_72 : decode cX7_dearth 72 = .ok (.iand, 1) := by decide +kernel
theorem dX7_dearth_73 : decode cX7_dearth 73 = .ok (.ifCond .ne 16, 3) := by decide +kernel
theorem dX7_dearth_76 : decode cX7_dearth 76 = .ok (.iload 6, 2) := by decide +kernel
theorem dX7_dearth_78 : decode cX7_dearth 78 = .ok (.ifCond .le 11, 3) := by decide +kernel
theorem dX7_dearth_81 : decode cX7_dearth 81 = .ok (.aload_n 0, 1) := by decide +kernel
theorem dX7_dearth_82 : decode cX7_dearth 82 = .ok (.getfield 22, 3) := by decide +kernel
theorem dX7_dearth_85 : decode cX7_dearth 85 = .ok (.iload 6, 2) := by decide +kernel
theorem dX7_dearth_87 : decode cX7_dearth 87 = .ok (.iconst 1, 1) := by decide +kernel
theorem dX7_dearth_88 : decode cX7_dearth 88 = .ok (.bastore, 1) := by decide +kernel
theorem dX7_dearth_89 : decode cX7_dearth 89 = .ok (.iinc 5 1, 3) := by decide +kernel
theorem dX7_dearth_92 : decode cX7_dearth 92 = .ok (.goto (-57), 3) := by decide +kernel
theorem dX7_dearth_95 : decode cX7_dearth 95 = .ok (.iconst 1, 1) := by decide +kernel
theorem dX7_dearth_96 : decode cX7_dearth 96 = .ok (.istore 5, 2) := by decide +kernel
theorem dX7_dearth_98 : decode cX7_dearth 98 = .ok (.iload 5, 2) := by decide +kernel
theorem dX7_dearth_100 : decode cX7_dearth 100 = .ok (.sipush 999, 3) := by decide +kernel
theorem dX7_dearth_103 : decode cX7_dearth 103 = .ok (.if_icmp .gt 19, 3) := by decide +kernel
theorem dX7_dearth_106 : decode cX7_dearth 106 = .ok (.aload_n 0, 1) := by decide +kernel
theorem dX7_dearth_107 : decode cX7_dearth 107 = .ok (.getfield 22, 3) := by decide +kernel
theorem dX7_dearth_110 : decode cX7_dearth 110 = .ok (.iload 5, 2) := by decide +kernel
theorem dX7_dearth_112 : decode cX7_dearth 112 = .ok (.baload, 1) := by decide +kernel
theorem dX7_dearth_113 : decode cX7_dearth 113 = .ok (.ifCond .eq 9, 3) := by decide +kernel
theorem dX7_dearth_116 : decode cX7_dearth 116 = .ok (.iinc 5 1, 3) := by decide +kernel
theorem dX7_dearth_119 : decode cX7_dearth 119 = .ok (.goto (-21), 3) := by decide +kernel
theorem dX7_dearth_122 : decode cX7_dearth 122 = .ok (.iload 5, 2) := by decide +kernel
theorem dX7_dearth_124 : decode cX7_dearth 124 = .ok (.sipush 999, 3) := by decide +kernel
theorem dX7_dearth_127 : decode cX7_dearth 127 = .ok (.if_icmp .le 12, 3) := by decide +kernel
theorem dX7_dearth_130 : decode cX7_dearth 130 = .ok (.aload_n 0, 1) := by decide +kernel
theorem dX7_dearth_131 : decode cX7_dearth 131 = .ok (.ldc 172, 2) := by decide +kernel
theorem dX7_dearth_133 : decode cX7_dearth 133 = .ok (.invokevirtual 87, 3) := by decide +kernel
theorem dX7_dearth_136 : decode cX7_dearth 136 = .ok (.goto 5, 3) := by decide +kernel
theorem dX7_dearth_139 : decode cX7_dearth 139 = .ok (.iload 5, 2) := by decide +kernel
theorem dX7_dearth_141 : decode cX7_dearth 141 = .ok (.ireturn, 1) := by decide +kernel
theorem dX7_findChange_0 : decode cX7_findChange 0 = .ok (.aload_n 0, 1) := by decide +kernel
theorem dX7_findChange_1 : decode cX7_findChange 1 = .ok (.iconst 0, 1) := by decide +kernel
theorem dX7_findChange_2 : decode cX7_findChange 2 = .ok (.putfield 179, 3) := by decide +kernel
theorem dX7_findChange_5 : decode cX7_findChange 5 = .ok (.aload_n 0, 1) := by decide +kernel
theorem dX7_findChange_6 : decode cX7_findChange 6 = .ok (.iconst 0, 1) := by decide +kernel
theorem dX7_findChange_7 : decode cX7_findChange 7 = .ok (.putfield 189, 3) := by decide +kernel
theorem dX7_findChange_10 : decode cX7_findChange 10 = .ok (.iconst 0, 1) := by decide +kernel
theorem dX7_findChange_11 : decode cX7_findChange 11 = .ok (.istore_n 3, 1) := by decide +kernel
theorem dX7_findChange_12 : decode cX7_findChange 12 = .ok (.aload_n 0, 1) := by decide +kernel
theorem dX7_findChange_13 : decode cX7_findChange 13 = .ok (.iload_n 1, 1) := by decide +kernel
theorem dX7_findChange_14 : decode cX7_findChange 14 = .ok (.invokevirtual 139, 3) := by decide +kernel
theorem dX7_findChange_17 : decode cX7_findChange 17 = .ok (.istore 4, 2) := by decide +kernel
theorem dX7_findChange_19 : decode cX7_findChange 19 = .ok (.aload_n 0, 1) := by decide +kernel
theorem dX7_findChange_20 : decode cX7_findChange 20 = .ok (.iload_n 2, 1) := by decide +kernel
theorem dX7_findChange_21 : decode cX7_findChange 21 = .ok (.invokevirtual 139, 3) := by decide +kernel
theorem dX7_findChange_24 : decode cX7_findChange 24 = .ok (.istore 5, 2) := by decide +kernel
theorem dX7_findChange_26 : decode cX7_findChange 26 = .ok (.iconst 1, 1) := by decide +kernel
theorem dX7_findChange_27 : decode cX7_findChange 27 = .ok (.istore 6, 2) := by decide +kernel
theorem dX7_findChange_29 : decode cX7_findChange 29 = .ok (.iload 6, 2) := by decide +kernel
theorem dX7_findChange_31 : decode cX7_findChange 31 = .ok (.iload 4, 2) := by decide +kernel
theorem dX7_findChange_33 : decode cX7_findChange 33 = .ok (.iload 5, 2) := by decide +kernel
theorem dX7_findChange_35 : decode cX7_findChange 35 = .ok (.ior, 1) := by decide +kernel
theorem dX7_findChange_36 : decode cX7_findChange 36 = .ok (.if_icmp .gt 172, 3) := by decide +kernel
theorem dX7_findChange_39 : decode cX7_findChange 39 = .ok (.iload 6, 2) := by decide +kernel
theorem dX7_findChange_41 : decode cX7_findChange 41 = .ok (.iload 4, 2) := by decide +kernel
theorem dX7_findChange_43 : decode cX7_findChange 43 = .ok (.iand, 1) := by decide +kernel
theorem dX7_findChange_44 : decode cX7_findChange 44 = .ok (.istore 7, 2) := by decide +kernel
theorem dX7_findChange_46 : decode cX7_findChange 46 = .ok (.iload 6, 2) := by decide +kernel
theorem dX7_findChange_48 : decode cX7_findChange 48 = .ok (.iload 5, 2) := by decide +kernel
theorem dX7_findChange_50 : decode cX7_findChange 50 = .ok (.iand, 1) := by decide +kernel
theorem dX7_findChange_51 : decode cX7_findChange 51 = .ok (.istore 8, 2) := by decide +kernel
theorem dX7_findChange_53 : decode cX7_findChange 53 = .ok (.iload 7, 2) := by decide +kernel
theorem dX7_findChange_55 : decode cX7_findChange 55 = .ok (.iload 8, 2) := by decide +kernel
theorem dX7_findChange_57 : decode cX7_findChange 57 = .ok (.ior, 1) := by decide +kernel
theorem dX7_findChange_58 : decode cX7_findChange 58 = .ok (.iload 6, 2) := by decide +kernel
theorem dX7_findChange_60 : decode cX7_findChange 60 = .ok (.if_icmp .ne 142, 3) := by decide +kernel
theorem dX7_findChange_63 : decode cX7_findChange 63 = .ok (.aload_n 0, 1) := by decide +kernel
theorem dX7_findChange_64 : decode cX7_findChange 64 = .ok (.iload 7, 2) := by decide +kernel
theorem dX7_findChange_66 : decode cX7_findChange 66 = .ok (.invokevirtual 142, 3) := by decide +kernel
theorem dX7_findChange_69 : decode cX7_findChange 69 = .ok (.aload_n 0, 1) := by decide +kernel
theorem dX7_findChange_70 : decode cX7_findChange 70 = .ok (.iload 8, 2) := by decide +kernel
theorem dX7_findChange_72 : decode cX7_findChange 72 = .ok (.invokevirtual 142, 3) := by decide +kernel
theorem dX7_findChange_75 : decode cX7_findChange 75 = .ok (.if_icmp .ne 127, 3) := by decide +kernel
theorem dX7_findChange_78 : decode cX7_findChange 78 = .ok (.aload_n 0, 1) := by decide +kernel
theorem dX7_findChange_79 : decode cX7_findChange 79 = .ok (.iload 8, 2) := by decide +kernel
theorem dX7_findChange_81 : decode cX7_findChange 81 = .ok (.iload_n 1, 1) := by decide +kernel
theorem dX7_findChange_82 : decode cX7_findChange 82 = .ok (.invokevirtual 149, 3) := by decide +kernel
theorem dX7_findChange_85 : decode cX7_findChange 85 = .ok (.aload_n 0, 1) := by decide +kernel
theorem dX7_findChange_86 : decode cX7_findChange 86 = .ok (.iload 7, 2) := by decide +kernel
theorem dX7_findChange_88 : decode cX7_findChange 88 = .ok (.invokevirtual 142, 3) := by decide +kernel
theorem dX7_findChange_91 : decode cX7_findChange 91 = .ok (.isub, 1) := by decide +kernel
theorem dX7_findChange_92 : decode cX7_findChange 92 = .ok (.istore 9, 2) := by decide +kernel
theorem dX7_findChange_94 : decode cX7_findChange 94 = .ok (.aload_n 0, 1) := by decide +kernel
theorem dX7_findChange_95 : decode cX7_findChange 95 = .ok (.iload 7, 2) := by decide +kernel
theorem dX7_findChange_97 : decode cX7_findChange 97 = .ok (.iload_n 2, 1) := by decide +kernel
theorem dX7_findChange_98 : decode cX7_findChange 98 = .ok (.invokevirtual 149, 3) := by decide +kernel
theorem dX7_findChange_101 : decode cX7_findChange 101 = .ok (.aload_n 0, 1) := by decide +kernel
theorem dX7_findChange_102 : decode cX7_findChange 102 = .ok (.iload 8, 2) := by decide +kernel
theorem dX7_findChange_104 : decode cX7_findChange 104 = .ok (.invokevirtual 142, 3) := by decide +kernel
theorem dX7_findChange_107 : decode cX7_findChange 107 = .ok (.isub, 1) := by decide +kernel
theorem dX7_findChange_108 : decode cX7_findChange 108 = .ok (.istore 10, 2) := by decide +kernel
theorem dX7_findChange_110 : decode cX7_findChange 110 = .ok (.iload 9, 2) := by decide +kernel
theorem dX7_findChange_112 : decode cX7_findChange 112 = .ok (.ifCond .lt 8, 3) := by decide +kernel
theorem dX7_findChange_115 : decode cX7_findChange 115 = .ok (.iload 10, 2) := by decide +kernel
theorem dX7_findChange_117 : decode cX7_findChange 117 = .ok (.ifCond .ge 7, 3) := by decide +kernel
theorem dX7_findChange_120 : decode cX7_findChange 120 = .ok (.iconst 0, 1) := by decide +kernel
theorem dX7_findChange_121 : decode cX7_findChange 121 = .ok (.goto 8, 3) := by decide +kernel
theorem dX7_findChange_124 : decode cX7_findChange 124 = .ok (.iload 9, 2) := by decide +kernel
theorem dX7_findChange_126 : decode cX7_findChange 126 = .ok (.iload 10, 2) := by decide +kernel
theorem dX7_findChange_128 : decode cX7_findChange 128 = .ok (.iadd, 1) := by decide +kernel
theorem dX7_findChange_129 : decode cX7_findChange 129 = .ok (.istore 11, 2) := by decide +kernel
theorem dX7_findChange_131 : decode cX7_findChange 131 = .ok (.iload 7, 2) := by decide +kernel
theorem dX7_findChange_133 : decode cX7_findChange 133 = .ok (.aload_n 0, 1) := by decide +kernel
theorem dX7_findChange_134 : decode cX7_findChange 134 = .ok (.getfield 179, 3) := by decide +kernel
theorem dX7_findChange_137 : decode cX7_findChange 137 = .ok (.if_icmp .lt 21, 3) := by decide +kernel
theorem dX7_findChange_140 : decode cX7_findChange 140 = .ok (.iload 7, 2) := by decide +kernel
theorem dX7_findChange_142 : decode cX7_findChange 142 = .ok (.aload_n 0, 1) := by decide +kernel
theorem dX7_findChange_143 : decode cX7_findChange 143 = .ok (.getfield 179, 3) := by decide +kernel
theorem dX7_findChange_146 : decode cX7_findChange 146 = .ok (.if_icmp .ne 16, 3) := by decide +kernel
theorem dX7_findChange_149 : decode cX7_findChange 149 = .ok (.iload 8, 2) := by decide +kernel
theorem dX7_findChange_151 : decode cX7_findChange 151 = .ok (.aload_n 0, 1) := by decide +kernel
theorem dX7_findChange_152 : decode cX7_findChange 152 = .ok (.getfield 189, 3) := by decide +kernel
theorem dX7_findChange_155 : decode cX7_findChange 155 = .ok (.if_icmp .ge 7, 3) := by decide +kernel
theorem dX7_findChange_158 : decode cX7_findChange 158 = .ok (.iconst 1, 1) := by decide +kernel
theorem dX7_findChange_159 : decode cX7_findChange 159 = .ok (.goto 4, 3) := by decide +kernel
theorem dX7_findChange_162 : decode cX7_findChange 162 = .ok (.iconst 0, 1) := by decide +kernel
theorem dX7_findChange_163 : decode cX7_findChange 163 = .ok (.istore 12, 2) := by decide +kernel
theorem dX7_findChange_165 : decode cX7_findChange 165 = .ok (.iload 11, 2) := by decide +kernel
theorem dX7_findChange_167 : decode cX7_findChange 167 = .ok (.iload_n 3, 1) := by decide +kernel
theorem dX7_findChange_168 : decode cX7_findChange 168 = .ok (.if_icmp .gt 19, 3) := by decide +kernel
theorem dX7_findChange_171 : decode cX7_findChange 171 = .ok (.iload 11, 2) := by decide +kernel
theorem dX7_findChange_173 : decode cX7_findChange 173 = .ok (.iload_n 3, 1) := by decide +kernel
theorem dX7_findChange_174 : decode cX7_findChange 174 = .ok (.if_icmp .ne 28, 3) := by decide +kernel
theorem dX7_findChange_177 : decode cX7_findChange 177 = .ok (.iload 11, 2) := by decide +kernel
theorem dX7_findChange_179 : decode cX7_findChange 179 = .ok (.ifCond .le 23, 3) := by decide +kernel
theorem dX7_findChange_182 : decode cX7_findChange 182 = .ok (.iload 12, 2) := by decide +kernel
theorem dX7_findChange_184 : decode cX7_findChange 184 = .ok (.ifCond .eq 18, 3) := by decide +kernel
theorem dX7_findChange_187 : decode cX7_findChange 187 = .ok (.iload 11, 2) := by decide +kernel
theorem dX7_findChange_189 : decode cX7_findChange 189 = .ok (.istore_n 3, 1) := by decide +kernel
theorem dX7_findChange_190 : decode cX7_findChange 190 = .ok (.aload_n 0, 1) := by decide +kernel
theorem dX7_findChange_191 : decode cX7_findChange 191 = .ok (.iload 7, 2) := by decide +kernel
theorem dX7_findChange_193 : decode cX7_findChange 193 = .ok (.putfield 179, 3) := by decide +kernel
theorem dX7_findChange_196 : decode cX7_findChange 196 = .ok (.aload_n 0, 1) := by decide +kernel
theorem dX7_findChange_197 : decode cX7_findChange 197 = .ok (.iload 8, 2) := by decide +kernel
theorem dX7_findChange_199 : decode cX7_findChange 199 = .ok (.putfield 189, 3) := by decide +kernel
theorem dX7_findChange_202 : decode cX7_findChange 202 = .ok (.iinc 6 1, 3) := by decide +kernel
theorem dX7_findChange_205 : decode cX7_findChange 205 = .ok (.goto (-176), 3) := by decide +kernel
theorem dX7_findChange_208 : decode cX7_findChange 208 = .ok (.iload_n 3, 1) := by decide +kernel
theorem dX7_findChange_209 : decode cX7_findChange 209 = .ok (.ireturn, 1) := by decide +kernel
theorem dX7_gain_0 : decode cX7_gain 0 = .ok (.iload_n 1, 1) := by decide +kernel
theorem dX7_gain_1 : decode cX7_gain 1 = .ok (.iload_n 2, 1) := by decide +kernel
theorem dX7_gain_2 : decode cX7_gain 2 = .ok (.invokestatic 159, 3) := by decide +kernel
theorem dX7_gain_5 : decode cX7_gain 5 = .ok (.ifCond .ne 10, 3) := by decide +kernel
theorem dX7_gain_8 : decode cX7_gain 8 = .ok (.aload_n 0, 1) := by decide +kernel
theorem dX7_gain_9 : decode cX7_gain 9 = .ok (.ldc 67, 2) := by decide +kernel
theorem dX7_gain_11 : decode cX7_gain 11 = .ok (.invokevirtual 87, 3) := by decide +kernel
theorem dX7_gain_14 : decode cX7_gain 14 = .ok (.ireturn, 1) := by decide +kernel
theorem dX7_gain_15 : decode cX7_gain 15 = .ok (.aload_n 0, 1) := by decide +kernel
theorem dX7_gain_16 : decode cX7_gain 16 = .ok (.iload_n 1, 1) := by decide +kernel
theorem dX7_gain_17 : decode cX7_gain 17 = .ok (.iload_n 2, 1) := by decide +kernel
theorem dX7_gain_18 : decode cX7_gain 18 = .ok (.invokevirtual 208, 3) := by decide +kernel
theorem dX7_gain_21 : decode cX7_gain 21 = .ok (.istore_n 3, 1) := by decide +kernel
theorem dX7_gain_22 : decode cX7_gain 22 = .ok (.iload_n 3, 1) := by decide +kernel
theorem dX7_gain_23 : decode cX7_gain 23 = .ok (.ifCond .ne 12, 3) := by decide +kernel
theorem dX7_gain_26 : decode cX7_gain 26 = .ok (.aload_n 0, 1) := by decide +kernel
theorem dX7_gain_27 : decode cX7_gain 27 = .ok (.ldc 172, 2) := by decide +kernel
theorem dX7_gain_29 : decode cX7_gain 29 = .ok (.invokevirtual 87, 3) := by decide +kernel
theorem dX7_gain_32 : decode cX7_gain 32 = .ok (.goto 4, 3) := by decide +kernel
theorem dX7_gain_35 : decode cX7_gain 35 = .ok (.iload_n 3, 1) := by decide +kernel
theorem dX7_gain_36 : decode cX7_gain 36 = .ok (.ireturn, 1) := by decide +kernel
theorem dX7_lot_0 : decode cX7_lot 0 = .ok (.iload_n 1, 1) := by decide +kernel
theorem dX7_lot_1 : decode cX7_lot 1 = .ok (.iload_n 2, 1) := by decide +kernel
theorem dX7_lot_2 : decode cX7_lot 2 = .ok (.invokestatic 159, 3) := by decide +kernel
theorem dX7_lot_5 : decode cX7_lot 5 = .ok (.ifCond .ne 10, 3) := by decide +kernel
theorem dX7_lot_8 : decode cX7_lot 8 = .ok (.aload_n 0, 1) := by decide +kernel
theorem dX7_lot_9 : decode cX7_lot 9 = .ok (.ldc 67, 2) := by decide +kernel
theorem dX7_lot_11 : decode cX7_lot 11 = .ok (.invokevirtual 87, 3) := by decide +kernel
theorem dX7_lot_14 : decode cX7_lot 14 = .ok (.ireturn, 1) := by decide +kernel
theorem dX7_lot_15 : decode cX7_lot 15 = .ok (.aload_n 0, 1) := by decide +kernel
theorem dX7_lot_16 : decode cX7_lot 16 = .ok (.iload_n 1, 1) := by decide +kernel
theorem dX7_lot_17 : decode cX7_lot 17 = .ok (.iload_n 2, 1) := by decide +kernel
theorem dX7_lot_18 : decode cX7_lot 18 = .ok (.invokevirtual 208, 3) := by decide +kernel
theorem dX7_lot_21 : decode cX7_lot 21 = .ok (.ifCond .ne 12, 3) := by decide +kernel
theorem dX7_lot_24 : decode cX7_lot 24 = .ok (.aload_n 0, 1) := by decide +kernel
theorem dX7_lot_25 : decode cX7_lot 25 = .ok (.ldc 172, 2) := by decide +kernel
theorem dX7_lot_27 : decode cX7_lot 27 = .ok (.invokevirtual 87, 3) := by decide +kernel
theorem dX7_lot_30 : decode cX7_lot 30 = .ok (.goto 7, 3) := by decide +kernel
theorem dX7_lot_33 : decode cX7_lot 33 = .ok (.aload_n 0, 1) := by decide +kernel
theorem dX7_lot_34 : decode cX7_lot 34 = .ok (.getfield 179, 3) := by decide +kernel
theorem dX7_lot_37 : decode cX7_lot 37 = .ok (.ireturn, 1) := by decide +kernel
theorem dX7_deal_0 : decode cX7_deal 0 = .ok (.iload_n 1, 1) := by decide +kernel
theorem dX7_deal_1 : decode cX7_deal 1 = .ok (.iload_n 2, 1) := by decide +kernel
theorem dX7_deal_2 : decode cX7_deal 2 = .ok (.invokestatic 159, 3) := by decide +kernel
theorem dX7_deal_5 : decode cX7_deal 5 = .ok (.ifCond .ne 10, 3) := by decide +kernel
theorem dX7_deal_8 : decode cX7_deal 8 = .ok (.aload_n 0, 1) := by decide +kernel
theorem dX7_deal_9 : decode cX7_deal 9 = .ok (.ldc 67, 2) := by decide +kernel
theorem dX7_deal_11 : decode cX7_deal 11 = .ok (.invokevirtual 87, 3) := by decide +kernel
theorem dX7_deal_14 : decode cX7_deal 14 = .ok (.ireturn, 1) := by decide +kernel
theorem dX7_deal_15 : decode cX7_deal 15 = .ok (.aload_n 0, 1) := by decide +kernel
theorem dX7_deal_16 : decode cX7_deal 16 = .ok (.iload_n 1, 1) := by decide +kernel
theorem dX7_deal_17 : decode cX7_deal 17 = .ok (.iload_n 2, 1) := by decide +kernel
theorem dX7_deal_18 : decode cX7_deal 18 = .ok (.invokevirtual 208, 3) := by decide +kernel
theorem dX7_deal_21 : decode cX7_deal 21 = .ok (.istore_n 3, 1) := by decide +kernel
theorem dX7_deal_22 : decode cX7_deal 22 = .ok (.iload_n 3, 1) := by decide +kernel
theorem dX7_deal_23 : decode cX7_deal 23 = .ok (.ifCond .ne 10, 3) := by decide +kernel
theorem dX7_deal_26 : decode cX7_deal 26 = .ok (.aload_n 0, 1) := by decide +kernel
theorem dX7_deal_27 : decode cX7_deal 27 = .ok (.ldc 172, 2) := by decide +kernel
theorem dX7_deal_29 : decode cX7_deal 29 = .ok (.invokevirtual 87, 3) := by decide +kernel
theorem dX7_deal_32 : decode cX7_deal 32 = .ok (.ireturn, 1) := by decide +kernel
theorem dX7_deal_33 : decode cX7_deal 33 = .ok (.aload_n 0, 1) := by decide +kernel
theorem dX7_deal_34 : decode cX7_deal 34 = .ok (.iload_n 1, 1) := by decide +kernel
theorem dX7_deal_35 : decode cX7_deal 35 = .ok (.iload_n 2, 1) := by decide +kernel
theorem dX7_deal_36 : decode cX7_deal 36 = .ok (.invokevirtual 202, 3) := by decide +kernel
theorem dX7_deal_39 : decode cX7_deal 39 = .ok (.iload_n 3, 1) := by decide +kernel
theorem dX7_deal_40 : decode cX7_deal 40 = .ok (.ireturn, 1) := by decide +kernel
theorem dX7_deals_0 : decode cX7_deals 0 = .ok (.iload_n 1, 1) := by decide +kernel
theorem dX7_deals_1 : decode cX7_deals 1 = .ok (.iload_n 2, 1) := by decide +kernel
theorem dX7_deals_2 : decode cX7_deals 2 = .ok (.invokestatic 159, 3) := by decide +kernel
theorem dX7_deals_5 : decode cX7_deals 5 = .ok (.ifCond .ne 10, 3) := by decide +kernel
theorem dX7_deals_8 : decode cX7_deals 8 = .ok (.aload_n 0, 1) := by decide +kernel
theorem dX7_deals_9 : decode cX7_deals 9 = .ok (.ldc 67, 2) := by decide +kernel
theorem dX7_deals_11 : decode cX7_deals 11 = .ok (.invokevirtual 87, 3) := by decide +kernel
theorem dX7_deals_14 : decode cX7_deals 14 = .ok (.ireturn, 1) := by decide +kernel
theorem dX7_deals_15 : decode cX7_deals 15 = .ok (.aload_n 0, 1) := by decide +kernel
theorem dX7_deals_16 : decode cX7_deals 16 = .ok (.getfield 9, 3) := by decide +kernel
theorem dX7_deals_19 : decode cX7_deals 19 = .ok (.aload_n 0, 1) := by decide +kernel
theorem dX7_deals_20 : decode cX7_deals 20 = .ok (.getfield 16, 3) := by decide +kernel
theorem dX7_deals_23 : decode cX7_deals 23 = .ok (.invokestatic 68, 3) := by decide +kernel
theorem dX7_deals_26 : decode cX7_deals 26 = .ok (.iconst 0, 1) := by decide +kernel
theorem dX7_deals_27 : decode cX7_deals 27 = .ok (.istore_n 3, 1) := by decide +kernel
theorem dX7_deals_28 : decode cX7_deals 28 = .ok (.iload_n 3, 1) := by decide +kernel
theorem dX7_deals_29 : decode cX7_deals 29 = .ok (.bipush 20, 2) := by decide +kernel
theorem dX7_deals_31 : decode cX7_deals 31 = .ok (.if_icmp .ge 24, 3) := by decide +kernel
theorem dX7_deals_34 : decode cX7_deals 34 = .ok (.aload_n 0, 1) := by decide +kernel
theorem dX7_deals_35 : decode cX7_deals 35 = .ok (.iload_n 1, 1) := by decide +kernel
theorem dX7_deals_36 : decode cX7_deals 36 = .ok (.iload_n 2, 1) := by decide +kernel
theorem dX7_deals_37 : decode cX7_deals 37 = .ok (.invokevirtual 208, 3) := by decide +kernel
theorem dX7_deals_40 : decode cX7_deals 40 = .ok (.ifCond .le 15, 3) := by decide +kernel
theorem dX7_deals_43 : decode cX7_deals 43 = .ok (.aload_n 0, 1) := by decide +kernel
theorem dX7_deals_44 : decode cX7_deals 44 = .ok (.iload_n 1, 1) := by decide +kernel
theorem dX7_deals_45 : decode cX7_deals 45 = .ok (.iload_n 2, 1) := by decide +kernel
theorem dX7_deals_46 : decode cX7_deals 46 = .ok (.invokevirtual 202, 3) := by decide +kernel
theorem dX7_deals_49 : decode cX7_deals 49 = .ok (.iinc 3 1, 3) := by decide +kernel
theorem dX7_deals_52 : decode cX7_deals 52 = .ok (.goto (-24), 3) := by decide +kernel
theorem dX7_deals_55 : decode cX7_deals 55 = .ok (.aload_n 0, 1) := by decide +kernel
theorem dX7_deals_56 : decode cX7_deals 56 = .ok (.iload_n 3, 1) := by decide +kernel
theorem dX7_deals_57 : decode cX7_deals 57 = .ok (.invokevirtual 211, 3) := by decide +kernel
theorem dX7_deals_60 : decode cX7_deals 60 = .ok (.ireturn, 1) := by decide +kernel
theorem dX7_partner_0 : decode cX7_partner 0 = .ok (.iload_n 1, 1) := by decide +kernel
theorem dX7_partner_1 : decode cX7_partner 1 = .ok (.invokestatic 76, 3) := by decide +kernel
theorem dX7_partner_4 : decode cX7_partner 4 = .ok (.ifCond .ne 10, 3) := by decide +kernel
theorem dX7_partner_7 : decode cX7_partner 7 = .ok (.aload_n 0, 1) := by decide +kernel
theorem dX7_partner_8 : decode cX7_partner 8 = .ok (.ldc 67, 2) := by decide +kernel
theorem dX7_partner_10 : decode cX7_partner 10 = .ok (.invokevirtual 87, 3) := by decide +kernel
theorem dX7_partner_13 : decode cX7_partner 13 = .ok (.ireturn, 1) := by decide +kernel
theorem dX7_partner_14 : decode cX7_partner 14 = .ok (.iconst (-1), 1) := by decide +kernel
theorem dX7_partner_15 : decode cX7_partner 15 = .ok (.istore_n 2, 1) := by decide +kernel
theorem dX7_partner_16 : decode cX7_partner 16 = .ok (.iconst 0, 1) := by decide +kernel
theorem dX7_partner_17 : decode cX7_partner 17 = .ok (.istore_n 3, 1) := by decide +kernel
theorem dX7_partner_18 : decode cX7_partner 18 = .ok (.iconst 0, 1) := by decide +kernel
theorem dX7_partner_19 : decode cX7_partner 19 = .ok (.istore 4, 2) := by decide +kernel
theorem dX7_partner_21 : decode cX7_partner 21 = .ok (.iload 4, 2) := by decide +kernel
theorem dX7_partner_23 : decode cX7_partner 23 = .ok (.iconst 4, 1) := by decide +kernel
theorem dX7_partner_24 : decode cX7_partner 24 = .ok (.if_icmp .ge 48, 3) := by decide +kernel
theorem dX7_partner_27 : decode cX7_partner 27 = .ok (.iload 4, 2) := by decide +kernel
theorem dX7_partner_29 : decode cX7_partner 29 = .ok (.iload_n 1, 1) := by decide +kernel
theorem dX7_partner_30 : decode cX7_partner 30 = .ok (.if_icmp .ne 7, 3) := by decide +kernel
theorem dX7_partner_33 : decode cX7_partner 33 = .ok (.iconst 0, 1) := by decide +kernel
theorem dX7_partner_34 : decode cX7_partner 34 = .ok (.goto 10, 3) := by decide +kernel
theorem dX7_partner_37 : decode cX7_partner 37 = .ok (.aload_n 0, 1) := by decide +kernel
theorem dX7_partner_38 : decode cX7_partner 38 = .ok (.iload_n 1, 1) := by decide +kernel
theorem dX7_partner_39 : decode cX7_partner 39 = .ok (.iload 4, 2) := by decide +kernel
theorem dX7_partner_41 : decode cX7_partner 41 = .ok (.invokevirtual 208, 3) := by decide +kernel
theorem dX7_partner_44 : decode cX7_partner 44 = .ok (.istore 5, 2) := by decide +kernel
theorem dX7_partner_46 : decode cX7_partner 46 = .ok (.iload 5, 2) := by decide +kernel
theorem dX7_partner_48 : decode cX7_partner 48 = .ok (.iload_n 3, 1) := by decide +kernel
theorem dX7_partner_49 : decode cX7_partner 49 = .ok (.if_icmp .le 8, 3) := by decide +kernel
theorem dX7_partner_52 : decode cX7_partner 52 = .ok (.iload 4, 2) := by decide +kernel
theorem dX7_partner_54 : decode cX7_partner 54 = .ok (.goto 4, 3) := by decide +kernel
theorem dX7_partner_57 : decode cX7_partner 57 = .ok (.iload_n 2, 1) := by decide +kernel
theorem dX7_partner_58 : decode cX7_partner 58 = .ok (.istore_n 2, 1) := by decide +kernel
theorem dX7_partner_59 : decode cX7_partner 59 = .ok (.iload_n 3, 1) := by decide +kernel
theorem dX7_partner_60 : decode cX7_partner 60 = .ok (.iload 5, 2) := by decide +kernel
theorem dX7_partner_62 : decode cX7_partner 62 = .ok (.invokestatic 102, 3) := by decide +kernel
theorem dX7_partner_65 : decode cX7_partner 65 = .ok (.istore_n 3, 1) := by decide +kernel
theorem dX7_partner_66 : decode cX7_partner 66 = .ok (.iinc 4 1, 3) := by decide +kernel
theorem dX7_partner_69 : decode cX7_partner 69 = .ok (.goto (-48), 3) := by decide +kernel
theorem dX7_partner_72 : decode cX7_partner 72 = .ok (.iload_n 2, 1) := by decide +kernel
theorem dX7_partner_73 : decode cX7_partner 73 = .ok (.ifCond .ge 12, 3) := by decide +kernel
theorem dX7_partner_76 : decode cX7_partner 76 = .ok (.aload_n 0, 1) := by decide +kernel
theorem dX7_partner_77 : decode cX7_partner 77 = .ok (.ldc 172, 2) := by decide +kernel
theorem dX7_partner_79 : decode cX7_partner 79 = .ok (.invokevirtual 87, 3) := by decide +kernel
theorem dX7_partner_82 : decode cX7_partner 82 = .ok (.goto 4, 3) := by decide +kernel
theorem dX7_partner_85 : decode cX7_partner 85 = .ok (.iload_n 2, 1) := by decide +kernel
theorem dX7_partner_86 : decode cX7_partner 86 = .ok (.ireturn, 1) := by decide +kernel
theorem dX7_round_0 : decode cX7_round 0 = .ok (.aload_n 0, 1) := by decide +kernel
theorem dX7_round_1 : decode cX7_round 1 = .ok (.iload_n 1, 1) := by decide +kernel
theorem dX7_round_2 : decode cX7_round 2 = .ok (.invokevirtual 124, 3) := by decide +kernel
theorem dX7_round_5 : decode cX7_round 5 = .ok (.ifCond .eq 20, 3) := by decide +kernel
theorem dX7_round_8 : decode cX7_round 8 = .ok (.iload_n 2, 1) := by decide +kernel
theorem dX7_round_9 : decode cX7_round 9 = .ok (.invokestatic 76, 3) := by decide +kernel
theorem dX7_round_12 : decode cX7_round 12 = .ok (.ifCond .eq 13, 3) := by decide +kernel
theorem dX7_round_15 : decode cX7_round 15 = .ok (.aload_n 0, 1) := by decide +kernel
theorem dX7_round_16 : decode cX7_round 16 = .ok (.iload_n 1, 1) := by decide +kernel
theorem dX7_round_17 : decode cX7_round 17 = .ok (.iconst 1, 1) := by decide +kernel
theorem dX7_round_18 : decode cX7_round 18 = .ok (.invokevirtual 99, 3) := by decide +kernel
theorem dX7_round_21 : decode cX7_round 21 = .ok (.iload_n 2, 1) := by decide +kernel
theorem dX7_round_22 : decode cX7_round 22 = .ok (.if_icmp .ne 10, 3) := by decide +kernel
theorem dX7_round_25 : decode cX7_round 25 = .ok (.aload_n 0, 1) := by decide +kernel
theorem dX7_round_26 : decode cX7_round 26 = .ok (.ldc 67, 2) := by decide +kernel
theorem dX7_round_28 : decode cX7_round 28 = .ok (.invokevirtual 87, 3) := by decide +kernel
theorem dX7_round_31 : decode cX7_round 31 = .ok (.ireturn, 1) := by decide +kernel
theorem dX7_round_32 : decode cX7_round 32 = .ok (.aload_n 0, 1) := by decide +kernel
theorem dX7_round_33 : decode cX7_round 33 = .ok (.getfield 9, 3) := by decide +kernel
theorem dX7_round_36 : decode cX7_round 36 = .ok (.aload_n 0, 1) := by decide +kernel
theorem dX7_round_37 : decode cX7_round 37 = .ok (.getfield 16, 3) := by decide +kernel
theorem dX7_round_40 : decode cX7_round 40 = .ok (.invokestatic 68, 3) := by decide +kernel
theorem dX7_round_43 : decode cX7_round 43 = .ok (.aload_n 0, 1) := by decide +kernel
theorem dX7_round_44 : decode cX7_round 44 = .ok (.iload_n 1, 1) := by decide +kernel
theorem dX7_round_45 : decode cX7_round 45 = .ok (.iconst 1, 1) := by decide +kernel
theorem dX7_round_46 : decode cX7_round 46 = .ok (.invokevirtual 99, 3) := by decide +kernel
theorem dX7_round_49 : decode cX7_round 49 = .ok (.istore_n 3, 1) := by decide +kernel
theorem dX7_round_50 : decode cX7_round 50 = .ok (.aload_n 0, 1) := by decide +kernel
theorem dX7_round_51 : decode cX7_round 51 = .ok (.iload_n 1, 1) := by decide +kernel
theorem dX7_round_52 : decode cX7_round 52 = .ok (.invokevirtual 127, 3) := by decide +kernel
theorem dX7_round_55 : decode cX7_round 55 = .ok (.istore 4, 2) := by decide +kernel
theorem dX7_round_57 : decode cX7_round 57 = .ok (.iconst 0, 1) := by decide +kernel
theorem dX7_round_58 : decode cX7_round 58 = .ok (.istore 5, 2) := by decide +kernel
theorem dX7_round_60 : decode cX7_round 60 = .ok (.iconst 0, 1) := by decide +kernel
theorem dX7_round_61 : decode cX7_round 61 = .ok (.istore 6, 2) := by decide +kernel
theorem dX7_round_63 : decode cX7_round 63 = .ok (.iload 5, 2) := by decide +kernel
theorem dX7_round_65 : decode cX7_round 65 = .ok (.bipush 6, 2) := by decide +kernel
theorem dX7_round_67 : decode cX7_round 67 = .ok (.if_icmp .ge 48, 3) := by decide +kernel
theorem dX7_round_70 : decode cX7_round 70 = .ok (.iload 6, 2) := by decide +kernel
theorem dX7_round_72 : decode cX7_round 72 = .ok (.ifCond .ne 43, 3) := by decide +kernel
theorem dX7_round_75 : decode cX7_round 75 = .ok (.aload_n 0, 1) := by decide +kernel
theorem dX7_round_76 : decode cX7_round 76 = .ok (.iload_n 1, 1) := by decide +kernel
theorem dX7_round_77 : decode cX7_round 77 = .ok (.iload 5, 2) := by decide +kernel
theorem dX7_round_79 : decode cX7_round 79 = .ok (.iconst 2, 1) := by decide +kernel
theorem dX7_round_80 : decode cX7_round 80 = .ok (.irem, 1) := by decide +kernel
theorem dX7_round_81 : decode cX7_round 81 = .ok (.ifCond .ne 7, 3) := by decide +kernel
theorem dX7_round_84 : decode cX7_round 84 = .ok (.iload_n 2, 1) := by decide +kernel
theorem dX7_round_85 : decode cX7_round 85 = .ok (.goto 4, 3) := by decide +kernel
theorem dX7_round_88 : decode cX7_round 88 = .ok (.iload_n 3, 1) := by decide +kernel
theorem dX7_round_89 : decode cX7_round 89 = .ok (.invokevirtual 155, 3) := by decide +kernel
theorem dX7_round_92 : decode cX7_round 92 = .ok (.aload_n 0, 1) := by decide +kernel
theorem dX7_round_93 : decode cX7_round 93 = .ok (.iload_n 1, 1) := by decide +kernel
theorem dX7_round_94 : decode cX7_round 94 = .ok (.invokevirtual 127, 3) := by decide +kernel
theorem dX7_round_97 : decode cX7_round 97 = .ok (.iload 4, 2) := by decide +kernel
theorem dX7_round_99 : decode cX7_round 99 = .ok (.if_icmp .le 7, 3) := by decide +kernel
theorem dX7_round_102 : decode cX7_round 102 = .ok (.iconst 1, 1) := by decide +kernel
theorem dX7_round_103 : decode cX7_round 103 = .ok (.goto 4, 3) := by decide +kernel
theorem dX7_round_106 : decode cX7_round 106 = .ok (.iconst 0, 1) := by decide +kernel
theorem dX7_round_107 : decode cX7_round 107 = .ok (.istore 6, 2) := by decide +kernel
theorem dX7_round_109 : decode cX7_round 109 = .ok (.iinc 5 1, 3) := by decide +kernel
theorem dX7_round_112 : decode cX7_round 112 = .ok (.goto (-49), 3) := by decide +kernel
theorem dX7_round_115 : decode cX7_round 115 = .ok (.aload_n 0, 1) := by decide +kernel
theorem dX7_round_116 : decode cX7_round 116 = .ok (.iload 6, 2) := by decide +kernel
theorem dX7_round_118 : decode cX7_round 118 = .ok (.ifCond .eq 7, 3) := by decide +kernel
theorem dX7_round_121 : decode cX7_round 121 = .ok (.iconst 1, 1) := by decide +kernel
theorem dX7_round_122 : decode cX7_round 122 = .ok (.goto 4, 3) := by decide +kernel
theorem dX7_round_125 : decode cX7_round 125 = .ok (.iconst 0, 1) := by decide +kernel
theorem dX7_round_126 : decode cX7_round 126 = .ok (.invokevirtual 211, 3) := by decide +kernel
theorem dX7_round_129 : decode cX7_round 129 = .ok (.iconst 1, 1) := by decide +kernel
theorem dX7_round_130 : decode cX7_round 130 = .ok (.if_icmp .ne 8, 3) := by decide +kernel
theorem dX7_round_133 : decode cX7_round 133 = .ok (.iload 5, 2) := by decide +kernel
theorem dX7_round_135 : decode cX7_round 135 = .ok (.goto 9, 3) := by decide +kernel
theorem dX7_round_138 : decode cX7_round 138 = .ok (.aload_n 0, 1) := by decide +kernel
theorem dX7_round_139 : decode cX7_round 139 = .ok (.ldc 172, 2) := by decide +kernel
theorem dX7_round_141 : decode cX7_round 141 = .ok (.invokevirtual 87, 3) := by decide +kernel
theorem dX7_round_144 : decode cX7_round 144 = .ok (.ireturn, 1) := by decide +kernel
theorem dX7_liesOtherwise_0 : decode cX7_liesOtherwise 0 = .ok (.iconst 0, 1) := by decide +kernel
theorem dX7_liesOtherwise_1 : decode cX7_liesOtherwise 1 = .ok (.istore_n 2, 1) := by decide +kernel
theorem dX7_liesOtherwise_2 : decode cX7_liesOtherwise 2 = .ok (.iload_n 2, 1) := by decide +kernel
theorem dX7_liesOtherwise_3 : decode cX7_liesOtherwise 3 = .ok (.aload_n 0, 1) := by decide +kernel
theorem dX7_liesOtherwise_4 : decode cX7_liesOtherwise 4 = .ok (.getfield 9, 3) := by decide +kernel
theorem dX7_liesOtherwise_7 : decode cX7_liesOtherwise 7 = .ok (.iconst 1, 1) := by decide +kernel
theorem dX7_liesOtherwise_8 : decode cX7_liesOtherwise 8 = .ok (.iaload, 1) := by decide +kernel
theorem dX7_liesOtherwise_9 : decode cX7_liesOtherwise 9 = .ok (.if_icmp .ge 27, 3) := by decide +kernel
theorem dX7_liesOtherwise_12 : decode cX7_liesOtherwise 12 = .ok (.aload_n 0, 1) := by decide +kernel
theorem dX7_liesOtherwise_13 : decode cX7_liesOtherwise 13 = .ok (.getfield 9, 3) := by decide +kernel
theorem dX7_liesOtherwise_16 : decode cX7_liesOtherwise 16 = .ok (.iload_n 2, 1) := by decide +kernel
theorem dX7_liesOtherwise_17 : decode cX7_liesOtherwise 17 = .ok (.iconst 4, 1) := by decide +kernel
theorem dX7_liesOtherwise_18 : decode cX7_liesOtherwise 18 = .ok (.invokestatic 80, 3) := by decide +kernel
theorem dX7_liesOtherwise_21 : decode cX7_liesOtherwise 21 = .ok (.dup2, 1) := by decide +kernel
theorem dX7_liesOtherwise_22 : decode cX7_liesOtherwise 22 = .ok (.iaload, 1) := by decide +kernel
theorem dX7_liesOtherwise_23 : decode cX7_liesOtherwise 23 = .ok (.iload_n 1, 1) := by decide +kernel
theorem dX7_liesOtherwise_24 : decode cX7_liesOtherwise 24 = .ok (.iload_n 2, 1) := by decide +kernel
theorem dX7_liesOtherwise_25 : decode cX7_liesOtherwise 25 = .ok (.ishr, 1) := by decide +kernel
theorem dX7_liesOtherwise_26 : decode cX7_liesOtherwise 26 = .ok (.iconst 1, 1) := by decide +kernel
theorem dX7_liesOtherwise_27 : decode cX7_liesOtherwise 27 = .ok (.iand, 1) := by decide +kernel
theorem dX7_liesOtherwise_28 : decode cX7_liesOtherwise 28 = .ok (.ixor, 1) := by decide +kernel
theorem dX7_liesOtherwise_29 : decode cX7_liesOtherwise 29 = .ok (.iastore, 1) := by decide +kernel
theorem dX7_liesOtherwise_30 : decode cX7_liesOtherwise 30 = .ok (.iinc 2 1, 3) := by decide +kernel
theorem dX7_liesOtherwise_33 : decode cX7_liesOtherwise 33 = .ok (.goto (-31), 3) := by decide +kernel
theorem dX7_liesOtherwise_36 : decode cX7_liesOtherwise 36 = .ok (.return_, 1) := by decide +kernel
theorem dX7_flip_0 : decode cX7_flip 0 = .ok (.iload_n 1, 1) := by decide +kernel
theorem dX7_flip_1 : decode cX7_flip 1 = .ok (.invokestatic 76, 3) := by decide +kernel
theorem dX7_flip_4 : decode cX7_flip 4 = .ok (.ifCond .eq 10, 3) := by decide +kernel
theorem dX7_flip_7 : decode cX7_flip 7 = .ok (.iload_n 2, 1) := by decide +kernel
theorem dX7_flip_8 : decode cX7_flip 8 = .ok (.invokestatic 166, 3) := by decide +kernel
theorem dX7_flip_11 : decode cX7_flip 11 = .ok (.ifCond .ne 10, 3) := by decide +kernel
theorem dX7_flip_14 : decode cX7_flip 14 = .ok (.aload_n 0, 1) := by decide +kernel
theorem dX7_flip_15 : decode cX7_flip 15 = .ok (.ldc 67, 2) := by decide +kernel
theorem dX7_flip_17 : decode cX7_flip 17 = .ok (.invokevirtual 87, 3) := by decide +kernel
theorem dX7_flip_20 : decode cX7_flip 20 = .ok (.ireturn, 1) := by decide +kernel
theorem dX7_flip_21 : decode cX7_flip 21 = .ok (.aload_n 0, 1) := by decide +kernel
theorem dX7_flip_22 : decode cX7_flip 22 = .ok (.iload_n 1, 1) := by decide +kernel
theorem dX7_flip_23 : decode cX7_flip 23 = .ok (.invokevirtual 139, 3) := by decide +kernel
theorem dX7_flip_26 : decode cX7_flip 26 = .ok (.istore_n 3, 1) := by decide +kernel
theorem dX7_flip_27 : decode cX7_flip 27 = .ok (.iconst (-1), 1) := by decide +kernel
theorem dX7_flip_28 : decode cX7_flip 28 = .ok (.istore 4, 2) := by decide +kernel
theorem dX7_flip_30 : decode cX7_flip 30 = .ok (.iconst 0, 1) := by decide +kernel
theorem dX7_flip_31 : decode cX7_flip 31 = .ok (.istore 5, 2) := by decide +kernel
theorem dX7_flip_33 : decode cX7_flip 33 = .ok (.iload 5, 2) := by decide +kernel
theorem dX7_flip_35 : decode cX7_flip 35 = .ok (.iload_n 3, 1) := by decide +kernel
theorem dX7_flip_36 : decode cX7_flip 36 = .ok (.if_icmp .gt 66, 3) := by decide +kernel
theorem dX7_flip_39 : decode cX7_flip 39 = .ok (.iload 5, 2) := by decide +kernel
theorem dX7_flip_41 : decode cX7_flip 41 = .ok (.iload_n 3, 1) := by decide +kernel
theorem dX7_flip_42 : decode cX7_flip 42 = .ok (.iconst (-1), 1) := by decide +kernel
theorem dX7_flip_43 : decode cX7_flip 43 = .ok (.ixor, 1) := by decide +kernel
theorem dX7_flip_44 : decode cX7_flip 44 = .ok (.iand, 1) := by decide +kernel
theorem dX7_flip_45 : decode cX7_flip 45 = .ok (.ifCond .ne 51, 3) := by decide +kernel
theorem dX7_flip_48 : decode cX7_flip 48 = .ok (.iload 4, 2) := by decide +kernel
theorem dX7_flip_50 : decode cX7_flip 50 = .ok (.ifCond .lt 16, 3) := by decide +kernel
theorem dX7_flip_53 : decode cX7_flip 53 = .ok (.iload 5, 2) := by decide +kernel
theorem dX7_flip_55 : decode cX7_flip 55 = .ok (.invokestatic 186, 3) := by decide +kernel
theorem dX7_flip_58 : decode cX7_flip 58 = .ok (.iload 4, 2) := by decide +kernel
theorem dX7_flip_60 : decode cX7_flip 60 = .ok (.invokestatic 186, 3) := by decide +kernel
theorem dX7_flip_63 : decode cX7_flip 63 = .ok (.if_icmp .ge 33, 3) := by decide +kernel
theorem dX7_flip_66 : decode cX7_flip 66 = .ok (.aload_n 0, 1) := by decide +kernel
theorem dX7_flip_67 : decode cX7_flip 67 = .ok (.iload 5, 2) := by decide +kernel
theorem dX7_flip_69 : decode cX7_flip 69 = .ok (.invokevirtual 214, 3) := by decide +kernel
theorem dX7_flip_72 : decode cX7_flip 72 = .ok (.aload_n 0, 1) := by decide +kernel
theorem dX7_flip_73 : decode cX7_flip 73 = .ok (.iload_n 1, 1) := by decide +kernel
theorem dX7_flip_74 : decode cX7_flip 74 = .ok (.iload_n 2, 1) := by decide +kernel
theorem dX7_flip_75 : decode cX7_flip 75 = .ok (.invokevirtual 169, 3) := by decide +kernel
theorem dX7_flip_78 : decode cX7_flip 78 = .ok (.ifCond .ge 8, 3) := by decide +kernel
theorem dX7_flip_81 : decode cX7_flip 81 = .ok (.iload 4, 2) := by decide +kernel
theorem dX7_flip_83 : decode cX7_flip 83 = .ok (.goto 5, 3) := by decide +kernel
theorem dX7_flip_86 : decode cX7_flip 86 = .ok (.iload 5, 2) := by decide +kernel
theorem dX7_flip_88 : decode cX7_flip 88 = .ok (.istore 4, 2) := by decide +kernel
theorem dX7_flip_90 : decode cX7_flip 90 = .ok (.aload_n 0, 1) := by decide +kernel
theorem dX7_flip_91 : decode cX7_flip 91 = .ok (.iload 5, 2) := by decide +kernel
theorem dX7_flip_93 : decode cX7_flip 93 = .ok (.invokevirtual 214, 3) := by decide +kernel
theorem dX7_flip_96 : decode cX7_flip 96 = .ok (.iinc 5 1, 3) := by decide +kernel
theorem dX7_flip_99 : decode cX7_flip 99 = .ok (.goto (-66), 3) := by decide +kernel
theorem dX7_flip_102 : decode cX7_flip 102 = .ok (.iload 4, 2) := by decide +kernel
theorem dX7_flip_104 : decode cX7_flip 104 = .ok (.ifCond .ge 12, 3) := by decide +kernel
theorem dX7_flip_107 : decode cX7_flip 107 = .ok (.aload_n 0, 1) := by decide +kernel
theorem dX7_flip_108 : decode cX7_flip 108 = .ok (.ldc 172, 2) := by decide +kernel
theorem dX7_flip_110 : decode cX7_flip 110 = .ok (.invokevirtual 87, 3) := by decide +kernel
theorem dX7_flip_113 : decode cX7_flip 113 = .ok (.goto 5, 3) := by decide +kernel
theorem dX7_flip_116 : decode cX7_flip 116 = .ok (.iload 4, 2) := by decide +kernel
theorem dX7_flip_118 : decode cX7_flip 118 = .ok (.ireturn, 1) := by decide +kernel
theorem dX7_worthOtherwise_0 : decode cX7_worthOtherwise 0 = .ok (.aload_n 0, 1) := by decide +kernel
theorem dX7_worthOtherwise_1 : decode cX7_worthOtherwise 1 = .ok (.iload_n 1, 1) := by decide +kernel
theorem dX7_worthOtherwise_2 : decode cX7_worthOtherwise 2 = .ok (.aload_n 0, 1) := by decide +kernel
theorem dX7_worthOtherwise_3 : decode cX7_worthOtherwise 3 = .ok (.iload_n 1, 1) := by decide +kernel
theorem dX7_worthOtherwise_4 : decode cX7_worthOtherwise 4 = .ok (.iconst 0, 1) := by decide +kernel
theorem dX7_worthOtherwise_5 : decode cX7_worthOtherwise 5 = .ok (.invokevirtual 99, 3) := by decide +kernel
theorem dX7_worthOtherwise_8 : decode cX7_worthOtherwise 8 = .ok (.iconst 1, 1) := by decide +kernel
theorem dX7_worthOtherwise_9 : decode cX7_worthOtherwise 9 = .ok (.aload_n 0, 1) := by decide +kernel
theorem dX7_worthOtherwise_10 : decode cX7_worthOtherwise 10 = .ok (.iload_n 1, 1) := by decide +kernel
theorem dX7_worthOtherwise_11 : decode cX7_worthOtherwise 11 = .ok (.iconst 4, 1) := by decide +kernel
theorem dX7_worthOtherwise_12 : decode cX7_worthOtherwise 12 = .ok (.invokevirtual 99, 3) := by decide +kernel
theorem dX7_worthOtherwise_15 : decode cX7_worthOtherwise 15 = .ok (.isub, 1) := by decide +kernel
theorem dX7_worthOtherwise_16 : decode cX7_worthOtherwise 16 = .ok (.aload_n 0, 1) := by decide +kernel
theorem dX7_worthOtherwise_17 : decode cX7_worthOtherwise 17 = .ok (.iload_n 1, 1) := by decide +kernel
theorem dX7_worthOtherwise_18 : decode cX7_worthOtherwise 18 = .ok (.iconst 5, 1) := by decide +kernel
theorem dX7_worthOtherwise_19 : decode cX7_worthOtherwise 19 = .ok (.invokevirtual 99, 3) := by decide +kernel
theorem dX7_worthOtherwise_22 : decode cX7_worthOtherwise 22 = .ok (.aload_n 0, 1) := by decide +kernel
theorem dX7_worthOtherwise_23 : decode cX7_worthOtherwise 23 = .ok (.iload_n 1, 1) := by decide +kernel
theorem dX7_worthOtherwise_24 : decode cX7_worthOtherwise 24 = .ok (.iconst 1, 1) := by decide +kernel
theorem dX7_worthOtherwise_25 : decode cX7_worthOtherwise 25 = .ok (.invokevirtual 99, 3) := by decide +kernel
theorem dX7_worthOtherwise_28 : decode cX7_worthOtherwise 28 = .ok (.invokevirtual 107, 3) := by decide +kernel
theorem dX7_worthOtherwise_31 : decode cX7_worthOtherwise 31 = .ok (.ireturn, 1) := by decide +kernel
theorem dX7_highest_0 : decode cX7_highest 0 = .ok (.iload_n 1, 1) := by decide +kernel
theorem dX7_highest_1 : decode cX7_highest 1 = .ok (.invokestatic 76, 3) := by decide +kernel
theorem dX7_highest_4 : decode cX7_highest 4 = .ok (.ifCond .ne 10, 3) := by decide +kernel
theorem dX7_highest_7 : decode cX7_highest 7 = .ok (.aload_n 0, 1) := by decide +kernel
theorem dX7_highest_8 : decode cX7_highest 8 = .ok (.ldc 67, 2) := by decide +kernel
theorem dX7_highest_10 : decode cX7_highest 10 = .ok (.invokevirtual 87, 3) := by decide +kernel
theorem dX7_highest_13 : decode cX7_highest 13 = .ok (.ireturn, 1) := by decide +kernel
theorem dX7_highest_14 : decode cX7_highest 14 = .ok (.iconst 0, 1) := by decide +kernel
theorem dX7_highest_15 : decode cX7_highest 15 = .ok (.istore_n 2, 1) := by decide +kernel
theorem dX7_highest_16 : decode cX7_highest 16 = .ok (.iconst 0, 1) := by decide +kernel
theorem dX7_highest_17 : decode cX7_highest 17 = .ok (.istore_n 3, 1) := by decide +kernel
theorem dX7_highest_18 : decode cX7_highest 18 = .ok (.iload_n 3, 1) := by decide +kernel
theorem dX7_highest_19 : decode cX7_highest 19 = .ok (.aload_n 0, 1) := by decide +kernel
theorem dX7_highest_20 : decode cX7_highest 20 = .ok (.getfield 9, 3) := by decide +kernel
theorem dX7_highest_23 : decode cX7_highest 23 = .ok (.iconst 1, 1) := by decide +kernel
theorem dX7_highest_24 : decode cX7_highest 24 = .ok (.iaload, 1) := by decide +kernel
theorem dX7_highest_25 : decode cX7_highest 25 = .ok (.if_icmp .ge 39, 3) := by decide +kernel
theorem dX7_highest_28 : decode cX7_highest 28 = .ok (.iload_n 2, 1) := by decide +kernel
theorem dX7_highest_29 : decode cX7_highest 29 = .ok (.aload_n 0, 1) := by decide +kernel
theorem dX7_highest_30 : decode cX7_highest 30 = .ok (.iload_n 3, 1) := by decide +kernel
theorem dX7_highest_31 : decode cX7_highest 31 = .ok (.iconst 1, 1) := by decide +kernel
theorem dX7_highest_32 : decode cX7_highest 32 = .ok (.invokevirtual 99, 3) := by decide +kernel
theorem dX7_highest_35 : decode cX7_highest 35 = .ok (.iload_n 1, 1) := by decide +kernel
theorem dX7_highest_36 : decode cX7_highest 36 = .ok (.if_icmp .ne 19, 3) := by decide +kernel
theorem dX7_highest_39 : decode cX7_highest 39 = .ok (.aload_n 0, 1) := by decide +kernel
theorem dX7_highest_40 : decode cX7_highest 40 = .ok (.iload_n 3, 1) := by decide +kernel
theorem dX7_highest_41 : decode cX7_highest 41 = .ok (.invokevirtual 127, 3) := by decide +kernel
theorem dX7_highest_44 : decode cX7_highest 44 = .ok (.aload_n 0, 1) := by decide +kernel
theorem dX7_highest_45 : decode cX7_highest 45 = .ok (.iload_n 3, 1) := by decide +kernel
theorem dX7_highest_46 : decode cX7_highest 46 = .ok (.invokevirtual 217, 3) := by decide +kernel
theorem dX7_highest_49 : decode cX7_highest 49 = .ok (.invokestatic 102, 3) := by decide +kernel
theorem dX7_highest_52 : decode cX7_highest 52 = .ok (.goto 4, 3) := by decide +kernel
theorem dX7_highest_55 : decode cX7_highest 55 = .ok (.iconst 0, 1) := by decide +kernel
theorem dX7_highest_56 : decode cX7_highest 56 = .ok (.iadd, 1) := by decide +kernel
theorem dX7_highest_57 : decode cX7_highest 57 = .ok (.istore_n 2, 1) := by decide +kernel
theorem dX7_highest_58 : decode cX7_highest 58 = .ok (.iinc 3 1, 3) := by decide +kernel
theorem dX7_highest_61 : decode cX7_highest 61 = .ok (.goto (-43), 3) := by decide +kernel
theorem dX7_highest_64 : decode cX7_highest 64 = .ok (.iload_n 2, 1) := by decide +kernel
theorem dX7_highest_65 : decode cX7_highest 65 = .ok (.ireturn, 1) := by decide +kernel
theorem dX7_wrong_0 : decode cX7_wrong 0 = .ok (.iconst 0, 1) := by decide +kernel
theorem dX7_wrong_1 : decode cX7_wrong 1 = .ok (.istore_n 1, 1) := by decide +kernel
theorem dX7_wrong_2 : decode cX7_wrong 2 = .ok (.iconst 0, 1) := by decide +kernel
theorem dX7_wrong_3 : decode cX7_wrong 3 = .ok (.istore_n 2, 1) := by decide +kernel
theorem dX7_wrong_4 : decode cX7_wrong 4 = .ok (.iload_n 2, 1) := by decide +kernel
theorem dX7_wrong_5 : decode cX7_wrong 5 = .ok (.aload_n 0, 1) := by decide +kernel
theorem dX7_wrong_6 : decode cX7_wrong 6 = .ok (.getfield 9, 3) := by decide +kernel
theorem dX7_wrong_9 : decode cX7_wrong 9 = .ok (.iconst 1, 1) := by decide +kernel
theorem dX7_wrong_10 : decode cX7_wrong 10 = .ok (.iaload, 1) := by decide +kernel
theorem dX7_wrong_11 : decode cX7_wrong 11 = .ok (.if_icmp .ge 32, 3) := by decide +kernel
theorem dX7_wrong_14 : decode cX7_wrong 14 = .ok (.iload_n 1, 1) := by decide +kernel
theorem dX7_wrong_15 : decode cX7_wrong 15 = .ok (.aload_n 0, 1) := by decide +kernel
theorem dX7_wrong_16 : decode cX7_wrong 16 = .ok (.iload_n 2, 1) := by decide +kernel
theorem dX7_wrong_17 : decode cX7_wrong 17 = .ok (.invokevirtual 217, 3) := by decide +kernel
theorem dX7_wrong_20 : decode cX7_wrong 20 = .ok (.aload_n 0, 1) := by decide +kernel
theorem dX7_wrong_21 : decode cX7_wrong 21 = .ok (.iload_n 2, 1) := by decide +kernel
theorem dX7_wrong_22 : decode cX7_wrong 22 = .ok (.invokevirtual 127, 3) := by decide +kernel
theorem dX7_wrong_25 : decode cX7_wrong 25 = .ok (.if_icmp .le 9, 3) := by decide +kernel
theorem dX7_wrong_28 : decode cX7_wrong 28 = .ok (.iconst 1, 1) := by decide +kernel
theorem dX7_wrong_29 : decode cX7_wrong 29 = .ok (.iload_n 2, 1) := by decide +kernel
theorem dX7_wrong_30 : decode cX7_wrong 30 = .ok (.ishl, 1) := by decide +kernel
theorem dX7_wrong_31 : decode cX7_wrong 31 = .ok (.goto 4, 3) := by decide +kernel
theorem dX7_wrong_34 : decode cX7_wrong 34 = .ok (.iconst 0, 1) := by decide +kernel
theorem dX7_wrong_35 : decode cX7_wrong 35 = .ok (.ior, 1) := by decide +kernel
theorem dX7_wrong_36 : decode cX7_wrong 36 = .ok (.istore_n 1, 1) := by decide +kernel
theorem dX7_wrong_37 : decode cX7_wrong 37 = .ok (.iinc 2 1, 3) := by decide +kernel
theorem dX7_wrong_40 : decode cX7_wrong 40 = .ok (.goto (-36), 3) := by decide +kernel
theorem dX7_wrong_43 : decode cX7_wrong 43 = .ok (.iload_n 1, 1) := by decide +kernel
theorem dX7_wrong_44 : decode cX7_wrong 44 = .ok (.ireturn, 1) := by decide +kernel
theorem dX7_ways_0 : decode cX7_ways 0 = .ok (.iload_n 1, 1) := by decide +kernel
theorem dX7_ways_1 : decode cX7_ways 1 = .ok (.invokestatic 76, 3) := by decide +kernel
theorem dX7_ways_4 : decode cX7_ways 4 = .ok (.ifCond .eq 14, 3) := by decide +kernel
theorem dX7_ways_7 : decode cX7_ways 7 = .ok (.iload_n 2, 1) := by decide +kernel
theorem dX7_ways_8 : decode cX7_ways 8 = .ok (.iconst 0, 1) := by decide +kernel
theorem dX7_ways_9 : decode cX7_ways 9 = .ok (.sipush 9999, 3) := by decide +kernel
theorem dX7_ways_12 : decode cX7_ways 12 = .ok (.invokestatic 72, 3) := by decide +kernel
theorem dX7_ways_15 : decode cX7_ways 15 = .ok (.ifCond .ne 10, 3) := by decide +kernel
theorem dX7_ways_18 : decode cX7_ways 18 = .ok (.aload_n 0, 1) := by decide +kernel
theorem dX7_ways_19 : decode cX7_ways 19 = .ok (.ldc 67, 2) := by decide +kernel
theorem dX7_ways_21 : decode cX7_ways 21 = .ok (.invokevirtual 87, 3) := by decide +kernel
theorem dX7_ways_24 : decode cX7_ways 24 = .ok (.ireturn, 1) := by decide +kernel
theorem dX7_ways_25 : decode cX7_ways 25 = .ok (.aload_n 0, 1) := by decide +kernel
theorem dX7_ways_26 : decode cX7_ways 26 = .ok (.iload_n 1, 1) := by decide +kernel
theorem dX7_ways_27 : decode cX7_ways 27 = .ok (.invokevirtual 139, 3) := by decide +kernel
theorem dX7_ways_30 : decode cX7_ways 30 = .ok (.istore_n 3, 1) := by decide +kernel
theorem dX7_ways_31 : decode cX7_ways 31 = .ok (.iconst 0, 1) := by decide +kernel
theorem dX7_ways_32 : decode cX7_ways 32 = .ok (.istore 4, 2) := by decide +kernel
theorem dX7_ways_34 : decode cX7_ways 34 = .ok (.iconst 0, 1) := by decide +kernel
theorem dX7_ways_35 : decode cX7_ways 35 = .ok (.istore 5, 2) := by decide +kernel
theorem dX7_ways_37 : decode cX7_ways 37 = .ok (.iload 5, 2) := by decide +kernel
theorem dX7_ways_39 : decode cX7_ways 39 = .ok (.iload_n 3, 1) := by decide +kernel
theorem dX7_ways_40 : decode cX7_ways 40 = .ok (.if_icmp .gt 49, 3) := by decide +kernel
theorem dX7_ways_43 : decode cX7_ways 43 = .ok (.iload 5, 2) := by decide +kernel
theorem dX7_ways_45 : decode cX7_ways 45 = .ok (.iload_n 3, 1) := by decide +kernel
theorem dX7_ways_46 : decode cX7_ways 46 = .ok (.iconst (-1), 1) := by decide +kernel
theorem dX7_ways_47 : decode cX7_ways 47 = .ok (.ixor, 1) := by decide +kernel
theorem dX7_ways_48 : decode cX7_ways 48 = .ok (.iand, 1) := by decide +kernel
theorem dX7_ways_49 : decode cX7_ways 49 = .ok (.ifCond .ne 34, 3) := by decide +kernel
theorem dX7_ways_52 : decode cX7_ways 52 = .ok (.aload_n 0, 1) := by decide +kernel
theorem dX7_ways_53 : decode cX7_ways 53 = .ok (.iload 5, 2) := by decide +kernel
theorem dX7_ways_55 : decode cX7_ways 55 = .ok (.invokevirtual 214, 3) := by decide +kernel
theorem dX7_ways_58 : decode cX7_ways 58 = .ok (.iload 4, 2) := by decide +kernel
theorem dX7_ways_60 : decode cX7_ways 60 = .ok (.aload_n 0, 1) := by decide +kernel
theorem dX7_ways_61 : decode cX7_ways 61 = .ok (.iload_n 3, 1) := by decide +kernel
theorem dX7_ways_62 : decode cX7_ways 62 = .ok (.invokevirtual 142, 3) := by decide +kernel
theorem dX7_ways_65 : decode cX7_ways 65 = .ok (.iload_n 2, 1) := by decide +kernel
theorem dX7_ways_66 : decode cX7_ways 66 = .ok (.if_icmp .lt 7, 3) := by decide +kernel
theorem dX7_ways_69 : decode cX7_ways 69 = .ok (.iconst 1, 1) := by decide +kernel
theorem dX7_ways_70 : decode cX7_ways 70 = .ok (.goto 4, 3) := by decide +kernel
theorem dX7_ways_73 : decode cX7_ways 73 = .ok (.iconst 0, 1) := by decide +kernel
theorem dX7_ways_74 : decode cX7_ways 74 = .ok (.iadd, 1) := by decide +kernel
theorem dX7_ways_75 : decode cX7_ways 75 = .ok (.istore 4, 2) := by decide +kernel
theorem dX7_ways_77 : decode cX7_ways 77 = .ok (.aload_n 0, 1) := by decide +kernel
theorem dX7_ways_78 : decode cX7_ways 78 = .ok (.iload 5, 2) := by decide +kernel
theorem dX7_ways_80 : decode cX7_ways 80 = .ok (.invokevirtual 214, 3) := by decide +kernel
theorem dX7_ways_83 : decode cX7_ways 83 = .ok (.iinc 5 1, 3) := by decide +kernel
theorem dX7_ways_86 : decode cX7_ways 86 = .ok (.goto (-49), 3) := by decide +kernel
theorem dX7_ways_89 : decode cX7_ways 89 = .ok (.iload 4, 2) := by decide +kernel
theorem dX7_ways_91 : decode cX7_ways 91 = .ok (.ireturn, 1) := by decide +kernel
theorem dX7_kindFor_0 : decode cX7_kindFor 0 = .ok (.aload_n 0, 1) := by decide +kernel
theorem dX7_kindFor_1 : decode cX7_kindFor 1 = .ok (.iload_n 1, 1) := by decide +kernel
theorem dX7_kindFor_2 : decode cX7_kindFor 2 = .ok (.invokevirtual 124, 3) := by decide +kernel
theorem dX7_kindFor_5 : decode cX7_kindFor 5 = .ok (.ifCond .ne 10, 3) := by decide +kernel
theorem dX7_kindFor_8 : decode cX7_kindFor 8 = .ok (.aload_n 0, 1) := by decide +kernel
theorem dX7_kindFor_9 : decode cX7_kindFor 9 = .ok (.ldc 67, 2) := by decide +kernel
theorem dX7_kindFor_11 : decode cX7_kindFor 11 = .ok (.invokevirtual 87, 3) := by decide +kernel
theorem dX7_kindFor_14 : decode cX7_kindFor 14 = .ok (.ireturn, 1) := by decide +kernel
theorem dX7_kindFor_15 : decode cX7_kindFor 15 = .ok (.iconst 0, 1) := by decide +kernel
theorem dX7_kindFor_16 : decode cX7_kindFor 16 = .ok (.istore_n 2, 1) := by decide +kernel
theorem dX7_kindFor_17 : decode cX7_kindFor 17 = .ok (.iconst (-1), 1) := by decide +kernel
theorem dX7_kindFor_18 : decode cX7_kindFor 18 = .ok (.istore_n 3, 1) := by decide +kernel
theorem dX7_kindFor_19 : decode cX7_kindFor 19 = .ok (.iconst 0, 1) := by decide +kernel
theorem dX7_kindFor_20 : decode cX7_kindFor 20 = .ok (.istore 4, 2) := by decide +kernel
theorem dX7_kindFor_22 : decode cX7_kindFor 22 = .ok (.iload 4, 2) := by decide +kernel
theorem dX7_kindFor_24 : decode cX7_kindFor 24 = .ok (.bipush 6, 2) := by decide +kernel
theorem dX7_kindFor_26 : decode cX7_kindFor 26 = .ok (.if_icmp .gt 56, 3) := by decide +kernel
theorem dX7_kindFor_29 : decode cX7_kindFor 29 = .ok (.aload_n 0, 1) := by decide +kernel
theorem dX7_kindFor_30 : decode cX7_kindFor 30 = .ok (.iload_n 1, 1) := by decide +kernel
theorem dX7_kindFor_31 : decode cX7_kindFor 31 = .ok (.iload 4, 2) := by decide +kernel
theorem dX7_kindFor_33 : decode cX7_kindFor 33 = .ok (.aload_n 0, 1) := by decide +kernel
theorem dX7_kindFor_34 : decode cX7_kindFor 34 = .ok (.iload_n 1, 1) := by decide +kernel
theorem dX7_kindFor_35 : decode cX7_kindFor 35 = .ok (.iconst 4, 1) := by decide +kernel
theorem dX7_kindFor_36 : decode cX7_kindFor 36 = .ok (.invokevirtual 99, 3) := by decide +kernel
theorem dX7_kindFor_39 : decode cX7_kindFor 39 = .ok (.aload_n 0, 1) := by decide +kernel
theorem dX7_kindFor_40 : decode cX7_kindFor 40 = .ok (.iload_n 1, 1) := by decide +kernel
theorem dX7_kindFor_41 : decode cX7_kindFor 41 = .ok (.iconst 5, 1) := by decide +kernel
theorem dX7_kindFor_42 : decode cX7_kindFor 42 = .ok (.invokevirtual 99, 3) := by decide +kernel
theorem dX7_kindFor_45 : decode cX7_kindFor 45 = .ok (.aload_n 0, 1) := by decide +kernel
theorem dX7_kindFor_46 : decode cX7_kindFor 46 = .ok (.iload_n 1, 1) := by decide +kernel
theorem dX7_kindFor_47 : decode cX7_kindFor 47 = .ok (.iconst 1, 1) := by decide +kernel
theorem dX7_kindFor_48 : decode cX7_kindFor 48 = .ok (.invokevirtual 99, 3) := by decide +kernel
theorem dX7_kindFor_51 : decode cX7_kindFor 51 = .ok (.invokevirtual 107, 3) := by decide +kernel
theorem dX7_kindFor_54 : decode cX7_kindFor 54 = .ok (.istore 5, 2) := by decide +kernel
theorem dX7_kindFor_56 : decode cX7_kindFor 56 = .ok (.iload 5, 2) := by decide +kernel
theorem dX7_kindFor_58 : decode cX7_kindFor 58 = .ok (.iload_n 3, 1) := by decide +kernel
theorem dX7_kindFor_59 : decode cX7_kindFor 59 = .ok (.if_icmp .le 8, 3) := by decide +kernel
theorem dX7_kindFor_62 : decode cX7_kindFor 62 = .ok (.iload 4, 2) := by decide +kernel
theorem dX7_kindFor_64 : decode cX7_kindFor 64 = .ok (.goto 4, 3) := by decide +kernel
theorem dX7_kindFor_67 : decode cX7_kindFor 67 = .ok (.iload_n 2, 1) := by decide +kernel
theorem dX7_kindFor_68 : decode cX7_kindFor 68 = .ok (.istore_n 2, 1) := by decide +kernel
theorem dX7_kindFor_69 : decode cX7_kindFor 69 = .ok (.iload_n 3, 1) := by decide +kernel
theorem dX7_kindFor_70 : decode cX7_kindFor 70 = .ok (.iload 5, 2) := by decide +kernel
theorem dX7_kindFor_72 : decode cX7_kindFor 72 = .ok (.invokestatic 102, 3) := by decide +kernel
theorem dX7_kindFor_75 : decode cX7_kindFor 75 = .ok (.istore_n 3, 1) := by decide +kernel
theorem dX7_kindFor_76 : decode cX7_kindFor 76 = .ok (.iinc 4 1, 3) := by decide +kernel
theorem dX7_kindFor_79 : decode cX7_kindFor 79 = .ok (.goto (-57), 3) := by decide +kernel
theorem dX7_kindFor_82 : decode cX7_kindFor 82 = .ok (.iload_n 2, 1) := by decide +kernel
theorem dX7_kindFor_83 : decode cX7_kindFor 83 = .ok (.ireturn, 1) := by decide +kernel
theorem dX7_daysGo_0 : decode cX7_daysGo 0 = .ok (.iconst 0, 1) := by decide +kernel
theorem dX7_daysGo_1 : decode cX7_daysGo 1 = .ok (.istore_n 2, 1) := by decide +kernel
theorem dX7_daysGo_2 : decode cX7_daysGo 2 = .ok (.iconst 0, 1) := by decide +kernel
theorem dX7_daysGo_3 : decode cX7_daysGo 3 = .ok (.istore_n 3, 1) := by decide +kernel
theorem dX7_daysGo_4 : decode cX7_daysGo 4 = .ok (.iload_n 3, 1) := by decide +kernel
theorem dX7_daysGo_5 : decode cX7_daysGo 5 = .ok (.iload_n 1, 1) := by decide +kernel
theorem dX7_daysGo_6 : decode cX7_daysGo 6 = .ok (.if_icmp .ge 71, 3) := by decide +kernel
theorem dX7_daysGo_9 : decode cX7_daysGo 9 = .ok (.iconst 0, 1) := by decide +kernel
theorem dX7_daysGo_10 : decode cX7_daysGo 10 = .ok (.istore 4, 2) := by decide +kernel
theorem dX7_daysGo_12 : decode cX7_daysGo 12 = .ok (.iload 4, 2) := by decide +kernel
theorem dX7_daysGo_14 : decode cX7_daysGo 14 = .ok (.aload_n 0, 1) := by decide +kernel
theorem dX7_daysGo_15 : decode cX7_daysGo 15 = .ok (.getfield 9, 3) := by decide +kernel
theorem dX7_daysGo_18 : decode cX7_daysGo 18 = .ok (.iconst 1, 1) := by decide +kernel
theorem dX7_daysGo_19 : decode cX7_daysGo 19 = .ok (.iaload, 1) := by decide +kernel
theorem dX7_daysGo_20 : decode cX7_daysGo 20 = .ok (.if_icmp .ge 41, 3) := by decide +kernel
theorem dX7_daysGo_23 : decode cX7_daysGo 23 = .ok (.aload_n 0, 1) := by decide +kernel
theorem dX7_daysGo_24 : decode cX7_daysGo 24 = .ok (.getfield 9, 3) := by decide +kernel
theorem dX7_daysGo_27 : decode cX7_daysGo 27 = .ok (.iconst 0, 1) := by decide +kernel
theorem dX7_daysGo_28 : decode cX7_daysGo 28 = .ok (.iaload, 1) := by decide +kernel
theorem dX7_daysGo_29 : decode cX7_daysGo 29 = .ok (.bipush 7, 2) := by decide +kernel
theorem dX7_daysGo_31 : decode cX7_daysGo 31 = .ok (.irem, 1) := by decide +kernel
theorem dX7_daysGo_32 : decode cX7_daysGo 32 = .ok (.ifCond .ne 29, 3) := by decide +kernel
theorem dX7_daysGo_35 : decode cX7_daysGo 35 = .ok (.aload_n 0, 1) := by decide +kernel
theorem dX7_daysGo_36 : decode cX7_daysGo 36 = .ok (.iload 4, 2) := by decide +kernel
theorem dX7_daysGo_38 : decode cX7_daysGo 38 = .ok (.iconst 4, 1) := by decide +kernel
theorem dX7_daysGo_39 : decode cX7_daysGo 39 = .ok (.invokevirtual 99, 3) := by decide +kernel
theorem dX7_daysGo_42 : decode cX7_daysGo 42 = .ok (.iconst 1, 1) := by decide +kernel
theorem dX7_daysGo_43 : decode cX7_daysGo 43 = .ok (.if_icmp .ne 12, 3) := by decide +kernel
theorem dX7_daysGo_46 : decode cX7_daysGo 46 = .ok (.iinc 2 1, 3) := by decide +kernel
theorem dX7_daysGo_49 : decode cX7_daysGo 49 = .ok (.aload_n 0, 1) := by decide +kernel
theorem dX7_daysGo_50 : decode cX7_daysGo 50 = .ok (.iload 4, 2) := by decide +kernel
theorem dX7_daysGo_52 : decode cX7_daysGo 52 = .ok (.invokevirtual 120, 3) := by decide +kernel
theorem dX7_daysGo_55 : decode cX7_daysGo 55 = .ok (.iinc 4 1, 3) := by decide +kernel
theorem dX7_daysGo_58 : decode cX7_daysGo 58 = .ok (.goto (-46), 3) := by decide +kernel
theorem dX7_daysGo_61 : decode cX7_daysGo 61 = .ok (.aload_n 0, 1) := by decide +kernel
theorem dX7_daysGo_62 : decode cX7_daysGo 62 = .ok (.getfield 9, 3) := by decide +kernel
theorem dX7_daysGo_65 : decode cX7_daysGo 65 = .ok (.iconst 0, 1) := by decide +kernel
theorem dX7_daysGo_66 : decode cX7_daysGo 66 = .ok (.dup2, 1) := by decide +kernel
theorem dX7_daysGo_67 : decode cX7_daysGo 67 = .ok (.iaload, 1) := by decide +kernel
theorem dX7_daysGo_68 : decode cX7_daysGo 68 = .ok (.iconst 1, 1) := by decide +kernel
theorem dX7_daysGo_69 : decode cX7_daysGo 69 = .ok (.iadd, 1) := by decide +kernel
theorem dX7_daysGo_70 : decode cX7_daysGo 70 = .ok (.iastore, 1) := by decide +kernel
theorem dX7_daysGo_71 : decode cX7_daysGo 71 = .ok (.iinc 3 1, 3) := by decide +kernel
theorem dX7_daysGo_74 : decode cX7_daysGo 74 = .ok (.goto (-70), 3) := by decide +kernel
theorem dX7_daysGo_77 : decode cX7_daysGo 77 = .ok (.iload_n 2, 1) := by decide +kernel
theorem dX7_daysGo_78 : decode cX7_daysGo 78 = .ok (.ireturn, 1) := by decide +kernel
theorem dX7_days_0 : decode cX7_days 0 = .ok (.iload_n 1, 1) := by decide +kernel
theorem dX7_days_1 : decode cX7_days 1 = .ok (.iconst 1, 1) := by decide +kernel
theorem dX7_days_2 : decode cX7_days 2 = .ok (.bipush 60, 2) := by decide +kernel
theorem dX7_days_4 : decode cX7_days 4 = .ok (.invokestatic 72, 3) := by decide +kernel
theorem dX7_days_7 : decode cX7_days 7 = .ok (.ifCond .ne 10, 3) := by decide +kernel
theorem dX7_days_10 : decode cX7_days 10 = .ok (.aload_n 0, 1) := by decide +kernel
theorem dX7_days_11 : decode cX7_days 11 = .ok (.ldc 67, 2) := by decide +kernel
theorem dX7_days_13 : decode cX7_days 13 = .ok (.invokevirtual 87, 3) := by decide +kernel
theorem dX7_days_16 : decode cX7_days 16 = .ok (.ireturn, 1) := by decide +kernel
theorem dX7_days_17 : decode cX7_days 17 = .ok (.aload_n 0, 1) := by decide +kernel
theorem dX7_days_18 : decode cX7_days 18 = .ok (.getfield 9, 3) := by decide +kernel
theorem dX7_days_21 : decode cX7_days 21 = .ok (.iconst 0, 1) := by decide +kernel
theorem dX7_days_22 : decode cX7_days 22 = .ok (.iaload, 1) := by decide +kernel
theorem dX7_days_23 : decode cX7_days 23 = .ok (.iload_n 1, 1) := by decide +kernel
theorem dX7_days_24 : decode cX7_days 24 = .ok (.iadd, 1) := by decide +kernel
theorem dX7_days_25 : decode cX7_days 25 = .ok (.sipush 999, 3) := by decide +kernel
theorem dX7_days_28 : decode cX7_days 28 = .ok (.if_icmp .le 12, 3) := by decide +kernel
theorem dX7_days_31 : decode cX7_days 31 = .ok (.aload_n 0, 1) := by decide +kernel
theorem dX7_days_32 : decode cX7_days 32 = .ok (.ldc 162, 2) := by decide +kernel
theorem dX7_days_34 : decode cX7_days 34 = .ok (.invokevirtual 87, 3) := by decide +kernel
theorem dX7_days_37 : decode cX7_days 37 = .ok (.goto 8, 3) := by decide +kernel
theorem dX7_days_40 : decode cX7_days 40 = .ok (.aload_n 0, 1) := by decide +kernel
theorem dX7_days_41 : decode cX7_days 41 = .ok (.iload_n 1, 1) := by decide +kernel
theorem dX7_days_42 : decode cX7_days 42 = .ok (.invokevirtual 220, 3) := by decide +kernel
theorem dX7_days_45 : decode cX7_days 45 = .ok (.ireturn, 1) := by decide +kernel
theorem dX7_ahead_0 : decode cX7_ahead 0 = .ok (.iload_n 1, 1) := by decide +kernel
theorem dX7_ahead_1 : decode cX7_ahead 1 = .ok (.invokestatic 76, 3) := by decide +kernel
theorem dX7_ahead_4 : decode cX7_ahead 4 = .ok (.ifCond .eq 13, 3) := by decide +kernel
theorem dX7_ahead_7 : decode cX7_ahead 7 = .ok (.iload_n 2, 1) := by decide +kernel
theorem dX7_ahead_8 : decode cX7_ahead 8 = .ok (.iconst 0, 1) := by decide +kernel
theorem dX7_ahead_9 : decode cX7_ahead 9 = .ok (.bipush 60, 2) := by decide +kernel
theorem dX7_ahead_11 : decode cX7_ahead 11 = .ok (.invokestatic 72, 3) := by decide +kernel
theorem dX7_ahead_14 : decode cX7_ahead 14 = .ok (.ifCond .ne 10, 3) := by decide +kernel
theorem dX7_ahead_17 : decode cX7_ahead 17 = .ok (.aload_n 0, 1) := by decide +kernel
theorem dX7_ahead_18 : decode cX7_ahead 18 = .ok (.ldc 67, 2) := by decide +kernel
theorem dX7_ahead_20 : decode cX7_ahead 20 = .ok (.invokevirtual 87, 3) := by decide +kernel
theorem dX7_ahead_23 : decode cX7_ahead 23 = .ok (.ireturn, 1) := by decide +kernel
theorem dX7_ahead_24 : decode cX7_ahead 24 = .ok (.aload_n 0, 1) := by decide +kernel
theorem dX7_ahead_25 : decode cX7_ahead 25 = .ok (.getfield 9, 3) := by decide +kernel
theorem dX7_ahead_28 : decode cX7_ahead 28 = .ok (.iconst 0, 1) := by decide +kernel
theorem dX7_ahead_29 : decode cX7_ahead 29 = .ok (.iaload, 1) := by decide +kernel
theorem dX7_ahead_30 : decode cX7_ahead 30 = .ok (.iload_n 2, 1) := by decide +kernel
theorem dX7_ahead_31 : decode cX7_ahead 31 = .ok (.iadd, 1) := by decide +kernel
theorem dX7_ahead_32 : decode cX7_ahead 32 = .ok (.sipush 999, 3) := by decide +kernel
theorem dX7_ahead_35 : decode cX7_ahead 35 = .ok (.if_icmp .le 10, 3) := by decide +kernel
theorem dX7_ahead_38 : decode cX7_ahead 38 = .ok (.aload_n 0, 1) := by decide +kernel
theorem dX7_ahead_39 : decode cX7_ahead 39 = .ok (.ldc 162, 2) := by decide +kernel
theorem dX7_ahead_41 : decode cX7_ahead 41 = .ok (.invokevirtual 87, 3) := by decide +kernel
theorem dX7_ahead_44 : decode cX7_ahead 44 = .ok (.ireturn, 1) := by decide +kernel
theorem dX7_ahead_45 : decode cX7_ahead 45 = .ok (.aload_n 0, 1) := by decide +kernel
theorem dX7_ahead_46 : decode cX7_ahead 46 = .ok (.getfield 9, 3) := by decide +kernel
theorem dX7_ahead_49 : decode cX7_ahead 49 = .ok (.aload_n 0, 1) := by decide +kernel
theorem dX7_ahead_50 : decode cX7_ahead 50 = .ok (.getfield 16, 3) := by decide +kernel
theorem dX7_ahead_53 : decode cX7_ahead 53 = .ok (.invokestatic 68, 3) := by decide +kernel
theorem dX7_ahead_56 : decode cX7_ahead 56 = .ok (.aload_n 0, 1) := by decide +kernel
theorem dX7_ahead_57 : decode cX7_ahead 57 = .ok (.iload_n 2, 1) := by decide +kernel
theorem dX7_ahead_58 : decode cX7_ahead 58 = .ok (.invokevirtual 220, 3) := by decide +kernel
theorem dX7_ahead_61 : decode cX7_ahead 61 = .ok (.istore_n 3, 1) := by decide +kernel
theorem dX7_ahead_62 : decode cX7_ahead 62 = .ok (.aload_n 0, 1) := by decide +kernel
theorem dX7_ahead_63 : decode cX7_ahead 63 = .ok (.iload_n 3, 1) := by decide +kernel
theorem dX7_ahead_64 : decode cX7_ahead 64 = .ok (.ifCond .ge 7, 3) := by decide +kernel
theorem dX7_ahead_67 : decode cX7_ahead 67 = .ok (.iload_n 3, 1) := by decide +kernel
theorem dX7_ahead_68 : decode cX7_ahead 68 = .ok (.goto 12, 3) := by decide +kernel
theorem dX7_ahead_71 : decode cX7_ahead 71 = .ok (.aload_n 0, 1) := by decide +kernel
theorem dX7_ahead_72 : decode cX7_ahead 72 = .ok (.aload_n 0, 1) := by decide +kernel
theorem dX7_ahead_73 : decode cX7_ahead 73 = .ok (.iload_n 1, 1) := by decide +kernel
theorem dX7_ahead_74 : decode cX7_ahead 74 = .ok (.invokevirtual 139, 3) := by decide +kernel
theorem dX7_ahead_77 : decode cX7_ahead 77 = .ok (.invokevirtual 142, 3) := by decide +kernel
theorem dX7_ahead_80 : decode cX7_ahead 80 = .ok (.invokevirtual 211, 3) := by decide +kernel
theorem dX7_ahead_83 : decode cX7_ahead 83 = .ok (.ireturn, 1) := by decide +kernel
theorem dX7_drawn_0 : decode cX7_drawn 0 = .ok (.aload_n 0, 1) := by decide +kernel
theorem dX7_drawn_1 : decode cX7_drawn 1 = .ok (.getfield 9, 3) := by decide +kernel
theorem dX7_drawn_4 : decode cX7_drawn 4 = .ok (.iconst 2, 1) := by decide +kernel
theorem dX7_drawn_5 : decode cX7_drawn 5 = .ok (.aload_n 0, 1) := by decide +kernel
theorem dX7_drawn_6 : decode cX7_drawn 6 = .ok (.getfield 9, 3) := by decide +kernel
theorem dX7_drawn_9 : decode cX7_drawn 9 = .ok (.iconst 2, 1) := by decide +kernel
theorem dX7_drawn_10 : decode cX7_drawn 10 = .ok (.iaload, 1) := by decide +kernel
theorem dX7_drawn_11 : decode cX7_drawn 11 = .ok (.ldc 223, 2) := by decide +kernel
theorem dX7_drawn_13 : decode cX7_drawn 13 = .ok (.imul, 1) := by decide +kernel
theorem dX7_drawn_14 : decode cX7_drawn 14 = .ok (.sipush 12345, 3) := by decide +kernel
theorem dX7_drawn_17 : decode cX7_drawn 17 = .ok (.iadd, 1) := by decide +kernel
theorem dX7_drawn_18 : decode cX7_drawn 18 = .ok (.iastore, 1) := by decide +kernel
theorem dX7_drawn_19 : decode cX7_drawn 19 = .ok (.aload_n 0, 1) := by decide +kernel
theorem dX7_drawn_20 : decode cX7_drawn 20 = .ok (.getfield 9, 3) := by decide +kernel
theorem dX7_drawn_23 : decode cX7_drawn 23 = .ok (.iconst 2, 1) := by decide +kernel
theorem dX7_drawn_24 : decode cX7_drawn 24 = .ok (.iaload, 1) := by decide +kernel
theorem dX7_drawn_25 : decode cX7_drawn 25 = .ok (.bipush 8, 2) := by decide +kernel
theorem dX7_drawn_27 : decode cX7_drawn 27 = .ok (.iushr, 1) := by decide +kernel
theorem dX7_drawn_28 : decode cX7_drawn 28 = .ok (.ireturn, 1) := by decide +kernel
theorem dX7_market_0 : decode cX7_market 0 = .ok (.iload_n 1, 1) := by decide +kernel
theorem dX7_market_1 : decode cX7_market 1 = .ok (.iconst 1, 1) := by decide +kernel
theorem dX7_market_2 : decode cX7_market 2 = .ok (.bipush 12, 2) := by decide +kernel
theorem dX7_market_4 : decode cX7_market 4 = .ok (.invokestatic 72, 3) := by decide +kernel
theorem dX7_market_7 : decode cX7_market 7 = .ok (.ifCond .ne 10, 3) := by decide +kernel
theorem dX7_market_10 : decode cX7_market 10 = .ok (.aload_n 0, 1) := by decide +kernel
theorem dX7_market_11 : decode cX7_market 11 = .ok (.ldc 67, 2) := by decide +kernel
theorem dX7_market_13 : decode cX7_market 13 = .ok (.invokevirtual 87, 3) := by decide +kernel
theorem dX7_market_16 : decode cX7_market 16 = .ok (.ireturn, 1) := by decide +kernel
theorem dX7_market_17 : decode cX7_market 17 = .ok (.aload_n 0, 1) := by decide +kernel
theorem dX7_market_18 : decode cX7_market 18 = .ok (.getfield 9, 3) := by decide +kernel
theorem dX7_market_21 : decode cX7_market 21 = .ok (.iconst 1, 1) := by decide +kernel
theorem dX7_market_22 : decode cX7_market 22 = .ok (.iaload, 1) := by decide +kernel
theorem dX7_market_23 : decode cX7_market 23 = .ok (.ifCond .ne 10, 3) := by decide +kernel
theorem dX7_market_26 : decode cX7_market 26 = .ok (.aload_n 0, 1) := by decide +kernel
theorem dX7_market_27 : decode cX7_market 27 = .ok (.ldc 162, 2) := by decide +kernel
theorem dX7_market_29 : decode cX7_market 29 = .ok (.invokevirtual 87, 3) := by decide +kernel
theorem dX7_market_32 : decode cX7_market 32 = .ok (.ireturn, 1) := by decide +kernel
theorem dX7_market_33 : decode cX7_market 33 = .ok (.iconst 0, 1) := by decide +kernel
theorem dX7_market_34 : decode cX7_market 34 = .ok (.istore_n 2, 1) := by decide +kernel
theorem dX7_market_35 : decode cX7_market 35 = .ok (.iload_n 2, 1) := by decide +kernel
theorem dX7_market_36 : decode cX7_market 36 = .ok (.iload_n 1, 1) := by decide +kernel
theorem dX7_market_37 : decode cX7_market 37 = .ok (.if_icmp .ge 47, 3) := by decide +kernel
theorem dX7_market_40 : decode cX7_market 40 = .ok (.aload_n 0, 1) := by decide +kernel
theorem dX7_market_41 : decode cX7_market 41 = .ok (.invokevirtual 224, 3) := by decide +kernel
theorem dX7_market_44 : decode cX7_market 44 = .ok (.aload_n 0, 1) := by decide +kernel
theorem dX7_market_45 : decode cX7_market 45 = .ok (.getfield 9, 3) := by decide +kernel
theorem dX7_market_48 : decode cX7_market 48 = .ok (.iconst 1, 1) := by decide +kernel
theorem dX7_market_49 : decode cX7_market 49 = .ok (.iaload, 1) := by decide +kernel
theorem dX7_market_50 : decode cX7_market 50 = .ok (.irem, 1) := by decide +kernel
theorem dX7_market_51 : decode cX7_market 51 = .ok (.istore_n 3, 1) := by decide +kernel
theorem dX7_market_52 : decode cX7_market 52 = .ok (.aload_n 0, 1) := by decide +kernel
theorem dX7_market_53 : decode cX7_market 53 = .ok (.invokevirtual 224, 3) := by decide +kernel
theorem dX7_market_56 : decode cX7_market 56 = .ok (.iconst 4, 1) := by decide +kernel
theorem dX7_market_57 : decode cX7_market 57 = .ok (.irem, 1) := by decide +kernel
theorem dX7_market_58 : decode cX7_market 58 = .ok (.istore 4, 2) := by decide +kernel
theorem dX7_market_60 : decode cX7_market 60 = .ok (.aload_n 0, 1) := by decide +kernel
theorem dX7_market_61 : decode cX7_market 61 = .ok (.iload_n 3, 1) := by decide +kernel
theorem dX7_market_62 : decode cX7_market 62 = .ok (.iconst 1, 1) := by decide +kernel
theorem dX7_market_63 : decode cX7_market 63 = .ok (.invokevirtual 99, 3) := by decide +kernel
theorem dX7_market_66 : decode cX7_market 66 = .ok (.iload 4, 2) := by decide +kernel
theorem dX7_market_68 : decode cX7_market 68 = .ok (.if_icmp .eq 10, 3) := by decide +kernel
theorem dX7_market_71 : decode cX7_market 71 = .ok (.aload_n 0, 1) := by decide +kernel
theorem dX7_market_72 : decode cX7_market 72 = .ok (.iload_n 3, 1) := by decide +kernel
theorem dX7_market_73 : decode cX7_market 73 = .ok (.iload 4, 2) := by decide +kernel
theorem dX7_market_75 : decode cX7_market 75 = .ok (.invokevirtual 155, 3) := by decide +kernel
theorem dX7_market_78 : decode cX7_market 78 = .ok (.iinc 2 1, 3) := by decide +kernel
theorem dX7_market_81 : decode cX7_market 81 = .ok (.goto (-46), 3) := by decide +kernel
theorem dX7_market_84 : decode cX7_market 84 = .ok (.aload_n 0, 1) := by decide +kernel
theorem dX7_market_85 : decode cX7_market 85 = .ok (.aload_n 0, 1) := by decide +kernel
theorem dX7_market_86 : decode cX7_market 86 = .ok (.iconst 0, 1) := by decide +kernel
theorem dX7_market_87 : decode cX7_market 87 = .ok (.invokevirtual 139, 3) := by decide +kernel
theorem dX7_market_90 : decode cX7_market 90 = .ok (.invokevirtual 142, 3) := by decide +kernel
theorem dX7_market_93 : decode cX7_market 93 = .ok (.ireturn, 1) := by decide +kernel
theorem dX7_toss_0 : decode cX7_toss 0 = .ok (.aload_n 0, 1) := by decide +kernel
theorem dX7_toss_1 : decode cX7_toss 1 = .ok (.iload_n 1, 1) := by decide +kernel
theorem dX7_toss_2 : decode cX7_toss 2 = .ok (.invokevirtual 152, 3) := by decide +kernel
theorem dX7_toss_5 : decode cX7_toss 5 = .ok (.ifCond .eq 13, 3) := by decide +kernel
theorem dX7_toss_8 : decode cX7_toss 8 = .ok (.iload_n 2, 1) := by decide +kernel
theorem dX7_toss_9 : decode cX7_toss 9 = .ok (.iconst 0, 1) := by decide +kernel
theorem dX7_toss_10 : decode cX7_toss 10 = .ok (.bipush 20, 2) := by decide +kernel
theorem dX7_toss_12 : decode cX7_toss 12 = .ok (.invokestatic 72, 3) := by decide +kernel
theorem dX7_toss_15 : decode cX7_toss 15 = .ok (.ifCond .ne 10, 3) := by decide +kernel
theorem dX7_toss_18 : decode cX7_toss 18 = .ok (.aload_n 0, 1) := by decide +kernel
theorem dX7_toss_19 : decode cX7_toss 19 = .ok (.ldc 67, 2) := by decide +kernel
theorem dX7_toss_21 : decode cX7_toss 21 = .ok (.invokevirtual 87, 3) := by decide +kernel
theorem dX7_toss_24 : decode cX7_toss 24 = .ok (.ireturn, 1) := by decide +kernel
theorem dX7_toss_25 : decode cX7_toss 25 = .ok (.iconst 0, 1) := by decide +kernel
theorem dX7_toss_26 : decode cX7_toss 26 = .ok (.istore_n 3, 1) := by decide +kernel
theorem dX7_toss_27 : decode cX7_toss 27 = .ok (.iconst 0, 1) := by decide +kernel
theorem dX7_toss_28 : decode cX7_toss 28 = .ok (.istore 4, 2) := by decide +kernel
theorem dX7_toss_30 : decode cX7_toss 30 = .ok (.iload 4, 2) := by decide +kernel
theorem dX7_toss_32 : decode cX7_toss 32 = .ok (.iload_n 2, 1) := by decide +kernel
theorem dX7_toss_33 : decode cX7_toss 33 = .ok (.iload_n 1, 1) := by decide +kernel
theorem dX7_toss_34 : decode cX7_toss 34 = .ok (.invokestatic 186, 3) := by decide +kernel
theorem dX7_toss_37 : decode cX7_toss 37 = .ok (.imul, 1) := by decide +kernel
theorem dX7_toss_38 : decode cX7_toss 38 = .ok (.if_icmp .ge 26, 3) := by decide +kernel
theorem dX7_toss_41 : decode cX7_toss 41 = .ok (.iload_n 3, 1) := by decide +kernel
theorem dX7_toss_42 : decode cX7_toss 42 = .ok (.aload_n 0, 1) := by decide +kernel
theorem dX7_toss_43 : decode cX7_toss 43 = .ok (.invokevirtual 224, 3) := by decide +kernel
theorem dX7_toss_46 : decode cX7_toss 46 = .ok (.iconst 2, 1) := by decide +kernel
theorem dX7_toss_47 : decode cX7_toss 47 = .ok (.irem, 1) := by decide +kernel
theorem dX7_toss_48 : decode cX7_toss 48 = .ok (.ifCond .ne 7, 3) := by decide +kernel
theorem dX7_toss_51 : decode cX7_toss 51 = .ok (.iconst 1, 1) := by decide +kernel
theorem dX7_toss_52 : decode cX7_toss 52 = .ok (.goto 4, 3) := by decide +kernel
theorem dX7_toss_55 : decode cX7_toss 55 = .ok (.iconst 0, 1) := by decide +kernel
theorem dX7_toss_56 : decode cX7_toss 56 = .ok (.iadd, 1) := by decide +kernel
theorem dX7_toss_57 : decode cX7_toss 57 = .ok (.istore_n 3, 1) := by decide +kernel
theorem dX7_toss_58 : decode cX7_toss 58 = .ok (.iinc 4 1, 3) := by decide +kernel
theorem dX7_toss_61 : decode cX7_toss 61 = .ok (.goto (-31), 3) := by decide +kernel
theorem dX7_toss_64 : decode cX7_toss 64 = .ok (.iload_n 3, 1) := by decide +kernel
theorem dX7_toss_65 : decode cX7_toss 65 = .ok (.ireturn, 1) := by decide +kernel
theorem dX7_seed_0 : decode cX7_seed 0 = .ok (.aload_n 0, 1) := by decide +kernel
theorem dX7_seed_1 : decode cX7_seed 1 = .ok (.iconst 2, 1) := by decide +kernel
theorem dX7_seed_2 : decode cX7_seed 2 = .ok (.iload_n 1, 1) := by decide +kernel
theorem dX7_seed_3 : decode cX7_seed 3 = .ok (.invokevirtual 130, 3) := by decide +kernel
theorem dX7_seed_6 : decode cX7_seed 6 = .ok (.ireturn, 1) := by decide +kernel
theorem dX7_feed_0 : decode cX7_feed 0 = .ok (.iload_n 2, 1) := by decide +kernel
theorem dX7_feed_1 : decode cX7_feed 1 = .ok (.iconst 1, 1) := by decide +kernel
theorem dX7_feed_2 : decode cX7_feed 2 = .ok (.iconst 4, 1) := by decide +kernel
theorem dX7_feed_3 : decode cX7_feed 3 = .ok (.invokestatic 72, 3) := by decide +kernel
theorem dX7_feed_6 : decode cX7_feed 6 = .ok (.ifCond .ne 10, 3) := by decide +kernel
theorem dX7_feed_9 : decode cX7_feed 9 = .ok (.aload_n 0, 1) := by decide +kernel
theorem dX7_feed_10 : decode cX7_feed 10 = .ok (.ldc 67, 2) := by decide +kernel
theorem dX7_feed_12 : decode cX7_feed 12 = .ok (.invokevirtual 87, 3) := by decide +kernel
theorem dX7_feed_15 : decode cX7_feed 15 = .ok (.ireturn, 1) := by decide +kernel
theorem dX7_feed_16 : decode cX7_feed 16 = .ok (.aload_n 0, 1) := by decide +kernel
theorem dX7_feed_17 : decode cX7_feed 17 = .ok (.getfield 227, 3) := by decide +kernel
theorem dX7_feed_20 : decode cX7_feed 20 = .ok (.iload_n 2, 1) := by decide +kernel
theorem dX7_feed_21 : decode cX7_feed 21 = .ok (.iadd, 1) := by decide +kernel
theorem dX7_feed_22 : decode cX7_feed 22 = .ok (.bipush 120, 2) := by decide +kernel
theorem dX7_feed_24 : decode cX7_feed 24 = .ok (.if_icmp .le 10, 3) := by decide +kernel
theorem dX7_feed_27 : decode cX7_feed 27 = .ok (.aload_n 0, 1) := by decide +kernel
theorem dX7_feed_28 : decode cX7_feed 28 = .ok (.ldc 91, 2) := by decide +kernel
theorem dX7_feed_30 : decode cX7_feed 30 = .ok (.invokevirtual 87, 3) := by decide +kernel
theorem dX7_feed_33 : decode cX7_feed 33 = .ok (.ireturn, 1) := by decide +kernel
theorem dX7_feed_34 : decode cX7_feed 34 = .ok (.iload_n 2, 1) := by decide +kernel
theorem dX7_feed_35 : decode cX7_feed 35 = .ok (.iconst 1, 1) := by decide +kernel
theorem dX7_feed_36 : decode cX7_feed 36 = .ok (.isub, 1) := by decide +kernel
theorem dX7_feed_37 : decode cX7_feed 37 = .ok (.istore_n 3, 1) := by decide +kernel
theorem dX7_feed_38 : decode cX7_feed 38 = .ok (.iload_n 3, 1) := by decide +kernel
theorem dX7_feed_39 : decode cX7_feed 39 = .ok (.ifCond .lt 38, 3) := by decide +kernel
theorem dX7_feed_42 : decode cX7_feed 42 = .ok (.aload_n 0, 1) := by decide +kernel
theorem dX7_feed_43 : decode cX7_feed 43 = .ok (.getfield 26, 3) := by decide +kernel
theorem dX7_feed_46 : decode cX7_feed 46 = .ok (.aload_n 0, 1) := by decide +kernel
theorem dX7_feed_47 : decode cX7_feed 47 = .ok (.getfield 227, 3) := by decide +kernel
theorem dX7_feed_50 : decode cX7_feed 50 = .ok (.iload_n 1, 1) := by decide +kernel
theorem dX7_feed_51 : decode cX7_feed 51 = .ok (.bipush 8, 2) := by decide +kernel
theorem dX7_feed_53 : decode cX7_feed 53 = .ok (.iload_n 3, 1) := by decide +kernel
theorem dX7_feed_54 : decode cX7_feed 54 = .ok (.imul, 1) := by decide +kernel
theorem dX7_feed_55 : decode cX7_feed 55 = .ok (.ishr, 1) := by decide +kernel
theorem dX7_feed_56 : decode cX7_feed 56 = .ok (.sipush 255, 3) := by decide +kernel
theorem dX7_feed_59 : decode cX7_feed 59 = .ok (.iand, 1) := by decide +kernel
theorem dX7_feed_60 : decode cX7_feed 60 = .ok (.iastore, 1) := by decide +kernel
theorem dX7_feed_61 : decode cX7_feed 61 = .ok (.aload_n 0, 1) := by decide +kernel
theorem dX7_feed_62 : decode cX7_feed 62 = .ok (.dup, 1) := by decide +kernel
theorem dX7_feed_63 : decode cX7_feed 63 = .ok (.getfield 227, 3) := by decide +kernel
theorem dX7_feed_66 : decode cX7_feed 66 = .ok (.iconst 1, 1) := by decide +kernel
theorem dX7_feed_67 : decode cX7_feed 67 = .ok (.iadd, 1) := by decide +kernel
theorem dX7_feed_68 : decode cX7_feed 68 = .ok (.putfield 227, 3) := by decide +kernel
theorem dX7_feed_71 : decode cX7_feed 71 = .ok (.iinc 3 (-1), 3) := by decide +kernel
theorem dX7_feed_74 : decode cX7_feed 74 = .ok (.goto (-36), 3) := by decide +kernel
theorem dX7_feed_77 : decode cX7_feed 77 = .ok (.aload_n 0, 1) := by decide +kernel
theorem dX7_feed_78 : decode cX7_feed 78 = .ok (.getfield 227, 3) := by decide +kernel
theorem dX7_feed_81 : decode cX7_feed 81 = .ok (.ireturn, 1) := by decide +kernel
theorem dX7_wipe_0 : decode cX7_wipe 0 = .ok (.aload_n 0, 1) := by decide +kernel
theorem dX7_wipe_1 : decode cX7_wipe 1 = .ok (.getfield 227, 3) := by decide +kernel
theorem dX7_wipe_4 : decode cX7_wipe 4 = .ok (.istore_n 1, 1) := by decide +kernel
theorem dX7_wipe_5 : decode cX7_wipe 5 = .ok (.aload_n 0, 1) := by decide +kernel
theorem dX7_wipe_6 : decode cX7_wipe 6 = .ok (.iconst 0, 1) := by decide +kernel
theorem dX7_wipe_7 : decode cX7_wipe 7 = .ok (.putfield 227, 3) := by decide +kernel
theorem dX7_wipe_10 : decode cX7_wipe 10 = .ok (.iload_n 1, 1) := by decide +kernel
theorem dX7_wipe_11 : decode cX7_wipe 11 = .ok (.ireturn, 1) := by decide +kernel
theorem dX7_byteAt_0 : decode cX7_byteAt 0 = .ok (.iload_n 1, 1) := by decide +kernel
theorem dX7_byteAt_1 : decode cX7_byteAt 1 = .ok (.aload_n 0, 1) := by decide +kernel
theorem dX7_byteAt_2 : decode cX7_byteAt 2 = .ok (.getfield 227, 3) := by decide +kernel
theorem dX7_byteAt_5 : decode cX7_byteAt 5 = .ok (.if_icmp .ge 12, 3) := by decide +kernel
theorem dX7_byteAt_8 : decode cX7_byteAt 8 = .ok (.aload_n 0, 1) := by decide +kernel
theorem dX7_byteAt_9 : decode cX7_byteAt 9 = .ok (.getfield 26, 3) := by decide +kernel
theorem dX7_byteAt_12 : decode cX7_byteAt 12 = .ok (.iload_n 1, 1) := by decide +kernel
theorem dX7_byteAt_13 : decode cX7_byteAt 13 = .ok (.iaload, 1) := by decide +kernel
theorem dX7_byteAt_14 : decode cX7_byteAt 14 = .ok (.goto 4, 3) := by decide +kernel
theorem dX7_byteAt_17 : decode cX7_byteAt 17 = .ok (.iconst (-1), 1) := by decide +kernel
theorem dX7_byteAt_18 : decode cX7_byteAt 18 = .ok (.ireturn, 1) := by decide +kernel
theorem dX7_next_0 : decode cX7_next 0 = .ok (.aload_n 0, 1) := by decide +kernel
theorem dX7_next_1 : decode cX7_next 1 = .ok (.aload_n 0, 1) := by decide +kernel
theorem dX7_next_2 : decode cX7_next 2 = .ok (.getfield 230, 3) := by decide +kernel
theorem dX7_next_5 : decode cX7_next 5 = .ok (.putfield 233, 3) := by decide +kernel
theorem dX7_next_8 : decode cX7_next 8 = .ok (.aload_n 0, 1) := by decide +kernel
theorem dX7_next_9 : decode cX7_next 9 = .ok (.aload_n 0, 1) := by decide +kernel
theorem dX7_next_10 : decode cX7_next 10 = .ok (.getfield 233, 3) := by decide +kernel
theorem dX7_next_13 : decode cX7_next 13 = .ok (.invokevirtual 236, 3) := by decide +kernel
theorem dX7_next_16 : decode cX7_next 16 = .ok (.bipush 32, 2) := by decide +kernel
theorem dX7_next_18 : decode cX7_next 18 = .ok (.if_icmp .ne 16, 3) := by decide +kernel
theorem dX7_next_21 : decode cX7_next 21 = .ok (.aload_n 0, 1) := by decide +kernel
theorem dX7_next_22 : decode cX7_next 22 = .ok (.dup, 1) := by decide +kernel
theorem dX7_next_23 : decode cX7_next 23 = .ok (.getfield 233, 3) := by decide +kernel
theorem dX7_next_26 : decode cX7_next 26 = .ok (.iconst 1, 1) := by decide +kernel
theorem dX7_next_27 : decode cX7_next 27 = .ok (.iadd, 1) := by decide +kernel
theorem dX7_next_28 : decode cX7_next 28 = .ok (.putfield 233, 3) := by decide +kernel
theorem dX7_next_31 : decode cX7_next 31 = .ok (.goto (-23), 3) := by decide +kernel
theorem dX7_next_34 : decode cX7_next 34 = .ok (.aload_n 0, 1) := by decide +kernel
theorem dX7_next_35 : decode cX7_next 35 = .ok (.aload_n 0, 1) := by decide +kernel
theorem dX7_next_36 : decode cX7_next 36 = .ok (.getfield 233, 3) := by decide +kernel
theorem dX7_next_39 : decode cX7_next 39 = .ok (.invokevirtual 236, 3) := by decide +kernel
theorem dX7_next_42 : decode cX7_next 42 = .ok (.istore_n 1, 1) := by decide +kernel
theorem dX7_next_43 : decode cX7_next 43 = .ok (.aload_n 0, 1) := by decide +kernel
theorem dX7_next_44 : decode cX7_next 44 = .ok (.aload_n 0, 1) := by decide +kernel
theorem dX7_next_45 : decode cX7_next 45 = .ok (.getfield 233, 3) := by decide +kernel
theorem dX7_next_48 : decode cX7_next 48 = .ok (.putfield 230, 3) := by decide +kernel
theorem dX7_next_51 : decode cX7_next 51 = .ok (.aload_n 0, 1) := by decide +kernel
theorem dX7_next_52 : decode cX7_next 52 = .ok (.iconst 0, 1) := by decide +kernel
theorem dX7_next_53 : decode cX7_next 53 = .ok (.putfield 239, 3) := by decide +kernel
theorem dX7_next_56 : decode cX7_next 56 = .ok (.iload_n 1, 1) := by decide +kernel
theorem dX7_next_57 : decode cX7_next 57 = .ok (.ifCond .ge 11, 3) := by decide +kernel
theorem dX7_next_60 : decode cX7_next 60 = .ok (.aload_n 0, 1) := by decide +kernel
theorem dX7_next_61 : decode cX7_next 61 = .ok (.iconst 0, 1) := by decide +kernel
theorem dX7_next_62 : decode cX7_next 62 = .ok (.putfield 242, 3) := by decide +kernel
theorem dX7_next_65 : decode cX7_next 65 = .ok (.goto 141, 3) := by decide +kernel
theorem dX7_next_68 : decode cX7_next 68 = .ok (.iload_n 1, 1) := by decide +kernel
theorem dX7_next_69 : decode cX7_next 69 = .ok (.bipush 97, 2) := by decide +kernel
theorem dX7_next_71 : decode cX7_next 71 = .ok (.bipush 122, 2) := by decide +kernel
theorem dX7_next_73 : decode cX7_next 73 = .ok (.invokestatic 72, 3) := by decide +kernel
theorem dX7_next_76 : decode cX7_next 76 = .ok (.ifCond .eq 39, 3) := by decide +kernel
theorem dX7_next_79 : decode cX7_next 79 = .ok (.aload_n 0, 1) := by decide +kernel
theorem dX7_next_80 : decode cX7_next 80 = .ok (.iconst 1, 1) := by decide +kernel
theorem dX7_next_81 : decode cX7_next 81 = .ok (.putfield 242, 3) := by decide +kernel
theorem dX7_next_84 : decode cX7_next 84 = .ok (.aload_n 0, 1) := by decide +kernel
theorem dX7_next_85 : decode cX7_next 85 = .ok (.aload_n 0, 1) := by decide +kernel
theorem dX7_next_86 : decode cX7_next 86 = .ok (.getfield 230, 3) := by decide +kernel
theorem dX7_next_89 : decode cX7_next 89 = .ok (.invokevirtual 236, 3) := by decide +kernel
theorem dX7_next_92 : decode cX7_next 92 = .ok (.bipush 97, 2) := by decide +kernel
theorem dX7_next_94 : decode cX7_next 94 = .ok (.bipush 122, 2) := by decide +kernel
theorem dX7_next_96 : decode cX7_next 96 = .ok (.invokestatic 72, 3) := by decide +kernel
theorem dX7_next_99 : decode cX7_next 99 = .ok (.ifCond .eq 107, 3) := by decide +kernel
theorem dX7_next_102 : decode cX7_next 102 = .ok (.aload_n 0, 1) := by decide +kernel
theorem dX7_next_103 : decode cX7_next 103 = .ok (.dup, 1) := by decide +kernel
theorem dX7_next_104 : decode cX7_next 104 = .ok (.getfield 230, 3) := by decide +kernel
theorem dX7_next_107 : decode cX7_next 107 = .ok (.iconst 1, 1) := by decide +kernel
theorem dX7_next_108 : decode cX7_next 108 = .ok (.iadd, 1) := by decide +kernel
theorem dX7_next_109 : decode cX7_next 109 = .ok (.putfield 230, 3) := by decide +kernel
theorem dX7_next_112 : decode cX7_next 112 = .ok (.goto (-28), 3) := by decide +kernel
theorem dX7_next_115 : decode cX7_next 115 = .ok (.iload_n 1, 1) := by decide +kernel
theorem dX7_next_116 : decode cX7_next 116 = .ok (.bipush 48, 2) := by decide +kernel
theorem dX7_next_118 : decode cX7_next 118 = .ok (.bipush 57, 2) := by decide +kernel
theorem dX7_next_120 : decode cX7_next 120 = .ok (.invokestatic 72, 3) := by decide +kernel
theorem dX7_next_123 : decode cX7_next 123 = .ok (.ifCond .eq 68, 3) := by decide +kernel
theorem dX7_next_126 : decode cX7_next 126 = .ok (.aload_n 0, 1) := by decide +kernel
theorem dX7_next_127 : decode cX7_next 127 = .ok (.iconst 2, 1) := by decide +kernel
theorem dX7_next_128 : decode cX7_next 128 = .ok (.putfield 242, 3) := by decide +kernel
theorem dX7_next_131 : decode cX7_next 131 = .ok (.aload_n 0, 1) := by decide +kernel
theorem dX7_next_132 : decode cX7_next 132 = .ok (.aload_n 0, 1) := by decide +kernel
theorem dX7_next_133 : decode cX7_next 133 = .ok (.getfield 230, 3) := by decide +kernel
theorem dX7_next_136 : decode cX7_next 136 = .ok (.invokevirtual 236, 3) := by decide +kernel
theorem dX7_next_139 : decode cX7_next 139 = .ok (.bipush 48, 2) := by decide +kernel
theorem dX7_next_141 : decode cX7_next 141 = .ok (.bipush 57, 2) := by decide +kernel
theorem dX7_next_143 : decode cX7_next 143 = .ok (.invokestatic 72, 3) := by decide +kernel
theorem dX7_next_146 : decode cX7_next 146 = .ok (.ifCond .eq 60, 3) := by decide +kernel
theorem dX7_next_149 : decode cX7_next 149 = .ok (.aload_n 0, 1) := by decide +kernel
theorem dX7_next_150 : decode cX7_next 150 = .ok (.sipush 1000, 3) := by decide +kernel
theorem dX7_next_153 : decode cX7_next 153 = .ok (.bipush 10, 2) := by decide +kernel
theorem dX7_next_155 : decode cX7_next 155 = .ok (.aload_n 0, 1) := by decide +kernel
theorem dX7_next_156 : decode cX7_next 156 = .ok (.getfield 239, 3) := by decide +kernel
theorem dX7_next_159 : decode cX7_next 159 = .ok (.imul, 1) := by decide +kernel
theorem dX7_next_160 : decode cX7_next 160 = .ok (.aload_n 0, 1) := by decide +kernel
theorem dX7_next_161 : decode cX7_next 161 = .ok (.aload_n 0, 1) := by decide +kernel
theorem dX7_next_162 : decode cX7_next 162 = .ok (.getfield 230, 3) := by decide +kernel
theorem dX7_next_165 : decode cX7_next 165 = .ok (.invokevirtual 236, 3) := by decide +kernel
theorem dX7_next_168 : decode cX7_next 168 = .ok (.iadd, 1) := by decide +kernel
theorem dX7_next_169 : decode cX7_next 169 = .ok (.bipush 48, 2) := by decide +kernel
theorem dX7_next_171 : decode cX7_next 171 = .ok (.isub, 1) := by decide +kernel
theorem dX7_next_172 : decode cX7_next 172 = .ok (.invokestatic 205, 3) := by decide +kernel
theorem dX7_next_175 : decode cX7_next 175 = .ok (.putfield 239, 3) := by decide +kernel
theorem dX7_next_178 : decode cX7_next 178 = .ok (.aload_n 0, 1) := by decide +kernel
theorem dX7_next_179 : decode cX7_next 179 = .ok (.dup, 1) := by decide +kernel
theorem dX7_next_180 : decode cX7_next 180 = .ok (.getfield 230, 3) := by decide +kernel
theorem dX7_next_183 : decode cX7_next 183 = .ok (.iconst 1, 1) := by decide +kernel
theorem dX7_next_184 : decode cX7_next 184 = .ok (.iadd, 1) := by decide +kernel
theorem dX7_next_185 : decode cX7_next 185 = .ok (.putfield 230, 3) := by decide +kernel
theorem dX7_next_188 : decode cX7_next 188 = .ok (.goto (-57), 3) := by decide +kernel
theorem dX7_next_191 : decode cX7_next 191 = .ok (.aload_n 0, 1) := by decide +kernel
theorem dX7_next_192 : decode cX7_next 192 = .ok (.iconst 3, 1) := by decide +kernel
theorem dX7_next_193 : decode cX7_next 193 = .ok (.putfield 242, 3) := by decide +kernel
theorem dX7_next_196 : decode cX7_next 196 = .ok (.aload_n 0, 1) := by decide +kernel
theorem dX7_next_197 : decode cX7_next 197 = .ok (.dup, 1) := by decide +kernel
theorem dX7_next_198 : decode cX7_next 198 = .ok (.getfield 230, 3) := by decide +kernel
theorem dX7_next_201 : decode cX7_next 201 = .ok (.iconst 1, 1) := by decide +kernel
theorem dX7_next_202 : decode cX7_next 202 = .ok (.iadd, 1) := by decide +kernel
theorem dX7_next_203 : decode cX7_next 203 = .ok (.putfield 230, 3) := by decide +kernel
theorem dX7_next_206 : decode cX7_next 206 = .ok (.return_, 1) := by decide +kernel
theorem dX7_isWord_0 : decode cX7_isWord 0 = .ok (.aload_n 0, 1) := by decide +kernel
theorem dX7_isWord_1 : decode cX7_isWord 1 = .ok (.getfield 242, 3) := by decide +kernel
theorem dX7_isWord_4 : decode cX7_isWord 4 = .ok (.iconst 1, 1) := by decide +kernel
theorem dX7_isWord_5 : decode cX7_isWord 5 = .ok (.if_icmp .ne 23, 3) := by decide +kernel
theorem dX7_isWord_8 : decode cX7_isWord 8 = .ok (.aload_n 0, 1) := by decide +kernel
theorem dX7_isWord_9 : decode cX7_isWord 9 = .ok (.getfield 230, 3) := by decide +kernel
theorem dX7_isWord_12 : decode cX7_isWord 12 = .ok (.aload_n 0, 1) := by decide +kernel
theorem dX7_isWord_13 : decode cX7_isWord 13 = .ok (.getfield 233, 3) := by decide +kernel
theorem dX7_isWord_16 : decode cX7_isWord 16 = .ok (.isub, 1) := by decide +kernel
theorem dX7_isWord_17 : decode cX7_isWord 17 = .ok (.aload_n 1, 1) := by decide +kernel
theorem dX7_isWord_18 : decode cX7_isWord 18 = .ok (.invokevirtual 245, 3) := by decide +kernel
theorem dX7_isWord_21 : decode cX7_isWord 21 = .ok (.if_icmp .ne 7, 3) := by decide +kernel
theorem dX7_isWord_24 : decode cX7_isWord 24 = .ok (.iconst 1, 1) := by decide +kernel
theorem dX7_isWord_25 : decode cX7_isWord 25 = .ok (.goto 4, 3) := by decide +kernel
theorem dX7_isWord_28 : decode cX7_isWord 28 = .ok (.iconst 0, 1) := by decide +kernel
theorem dX7_isWord_29 : decode cX7_isWord 29 = .ok (.istore_n 2, 1) := by decide +kernel
theorem dX7_isWord_30 : decode cX7_isWord 30 = .ok (.iconst 0, 1) := by decide +kernel
theorem dX7_isWord_31 : decode cX7_isWord 31 = .ok (.istore_n 3, 1) := by decide +kernel
theorem dX7_isWord_32 : decode cX7_isWord 32 = .ok (.iload_n 3, 1) := by decide +kernel
theorem dX7_isWord_33 : decode cX7_isWord 33 = .ok (.aload_n 1, 1) := by decide +kernel
theorem dX7_isWord_34 : decode cX7_isWord 34 = .ok (.invokevirtual 245, 3) := by decide +kernel
theorem dX7_isWord_37 : decode cX7_isWord 37 = .ok (.if_icmp .ge 38, 3) := by decide +kernel
theorem dX7_isWord_40 : decode cX7_isWord 40 = .ok (.iload_n 2, 1) := by decide +kernel
theorem dX7_isWord_41 : decode cX7_isWord 41 = .ok (.ifCond .eq 34, 3) := by decide +kernel
theorem dX7_isWord_44 : decode cX7_isWord 44 = .ok (.aload_n 0, 1) := by decide +kernel
theorem dX7_isWord_45 : decode cX7_isWord 45 = .ok (.getfield 26, 3) := by decide +kernel
theorem dX7_isWord_48 : decode cX7_isWord 48 = .ok (.aload_n 0, 1) := by decide +kernel
theorem dX7_isWord_49 : decode cX7_isWord 49 = .ok (.getfield 233, 3) := by decide +kernel
theorem dX7_isWord_52 : decode cX7_isWord 52 = .ok (.iload_n 3, 1) := by decide +kernel
theorem dX7_isWord_53 : decode cX7_isWord 53 = .ok (.iadd, 1) := by decide +kernel
theorem dX7_isWord_54 : decode cX7_isWord 54 = .ok (.iaload, 1) := by decide +kernel
theorem dX7_isWord_55 : decode cX7_isWord 55 = .ok (.aload_n 1, 1) := by decide +kernel
theorem dX7_isWord_56 : decode cX7_isWord 56 = .ok (.iload_n 3, 1) := by decide +kernel
theorem dX7_isWord_57 : decode cX7_isWord 57 = .ok (.invokevirtual 248, 3) := by decide +kernel
theorem dX7_isWord_60 : decode cX7_isWord 60 = .ok (.if_icmp .ne 7, 3) := by decide +kernel
theorem dX7_isWord_63 : decode cX7_isWord 63 = .ok (.iconst 1, 1) := by decide +kernel
theorem dX7_isWord_64 : decode cX7_isWord 64 = .ok (.goto 4, 3) := by decide +kernel
theorem dX7_isWord_67 : decode cX7_isWord 67 = .ok (.iconst 0, 1) := by decide +kernel
theorem dX7_isWord_68 : decode cX7_isWord 68 = .ok (.istore_n 2, 1) := by decide +kernel
theorem dX7_isWord_69 : decode cX7_isWord 69 = .ok (.iinc 3 1, 3) := by decide +kernel
theorem dX7_isWord_72 : decode cX7_isWord 72 = .ok (.goto (-40), 3) := by decide +kernel
theorem dX7_isWord_75 : decode cX7_isWord 75 = .ok (.iload_n 2, 1) := by decide +kernel
theorem dX7_isWord_76 : decode cX7_isWord 76 = .ok (.ireturn, 1) := by decide +kernel
theorem dX7_must_0 : decode cX7_must 0 = .ok (.aload_n 0, 1) := by decide +kernel
theorem dX7_must_1 : decode cX7_must 1 = .ok (.aload_n 0, 1) := by decide +kernel
theorem dX7_must_2 : decode cX7_must 2 = .ok (.getfield 252, 3) := by decide +kernel
theorem dX7_must_5 : decode cX7_must 5 = .ok (.ifCond .ne 7, 3) := by decide +kernel
theorem dX7_must_8 : decode cX7_must 8 = .ok (.iload_n 1, 1) := by decide +kernel
theorem dX7_must_9 : decode cX7_must 9 = .ok (.ifCond .ne 7, 3) := by decide +kernel
theorem dX7_must_12 : decode cX7_must 12 = .ok (.iconst 1, 1) := by decide +kernel
theorem dX7_must_13 : decode cX7_must 13 = .ok (.goto 4, 3) := by decide +kernel
theorem dX7_must_16 : decode cX7_must 16 = .ok (.iconst 0, 1) := by decide +kernel
theorem dX7_must_17 : decode cX7_must 17 = .ok (.putfield 252, 3) := by decide +kernel
theorem dX7_must_20 : decode cX7_must 20 = .ok (.aload_n 0, 1) := by decide +kernel
theorem dX7_must_21 : decode cX7_must 21 = .ok (.getfield 252, 3) := by decide +kernel
theorem dX7_must_24 : decode cX7_must 24 = .ok (.ifCond .ne 7, 3) := by decide +kernel
theorem dX7_must_27 : decode cX7_must 27 = .ok (.aload_n 0, 1) := by decide +kernel
theorem dX7_must_28 : decode cX7_must 28 = .ok (.invokevirtual 256, 3) := by decide +kernel
theorem dX7_must_31 : decode cX7_must 31 = .ok (.return_, 1) := by decide +kernel
theorem dX7_number_0 : decode cX7_number 0 = .ok (.aload_n 0, 1) := by decide +kernel
theorem dX7_number_1 : decode cX7_number 1 = .ok (.getfield 239, 3) := by decide +kernel
theorem dX7_number_4 : decode cX7_number 4 = .ok (.istore_n 3, 1) := by decide +kernel
theorem dX7_number_5 : decode cX7_number 5 = .ok (.aload_n 0, 1) := by decide +kernel
theorem dX7_number_6 : decode cX7_number 6 = .ok (.aload_n 0, 1) := by decide +kernel
theorem dX7_number_7 : decode cX7_number 7 = .ok (.getfield 242, 3) := by decide +kernel
theorem dX7_number_10 : decode cX7_number 10 = .ok (.iconst 2, 1) := by decide +kernel
theorem dX7_number_11 : decode cX7_number 11 = .ok (.if_icmp .ne 16, 3) := by decide +kernel
theorem dX7_number_14 : decode cX7_number 14 = .ok (.iload_n 3, 1) := by decide +kernel
theorem dX7_number_15 : decode cX7_number 15 = .ok (.iload_n 1, 1) := by decide +kernel
theorem dX7_number_16 : decode cX7_number 16 = .ok (.iload_n 2, 1) := by decide +kernel
theorem dX7_number_17 : decode cX7_number 17 = .ok (.invokestatic 72, 3) := by decide +kernel
theorem dX7_number_20 : decode cX7_number 20 = .ok (.ifCond .eq 7, 3) := by decide +kernel
theorem dX7_number_23 : decode cX7_number 23 = .ok (.iconst 1, 1) := by decide +kernel
theorem dX7_number_24 : decode cX7_number 24 = .ok (.goto 4, 3) := by decide +kernel
theorem dX7_number_27 : decode cX7_number 27 = .ok (.iconst 0, 1) := by decide +kernel
theorem dX7_number_28 : decode cX7_number 28 = .ok (.invokevirtual 259, 3) := by decide +kernel
theorem dX7_number_31 : decode cX7_number 31 = .ok (.iload_n 3, 1) := by decide +kernel
theorem dX7_number_32 : decode cX7_number 32 = .ok (.ireturn, 1) := by decide +kernel
theorem dX7_item_0 : decode cX7_item 0 = .ok (.iconst 5, 1) := by decide +kernel
theorem dX7_item_1 : decode cX7_item 1 = .ok (.aload_n 0, 1) := by decide +kernel
theorem dX7_item_2 : decode cX7_item 2 = .ok (.getfield 263, 3) := by decide +kernel
theorem dX7_item_5 : decode cX7_item 5 = .ok (.imul, 1) := by decide +kernel
theorem dX7_item_6 : decode cX7_item 6 = .ok (.istore 6, 2) := by decide +kernel
theorem dX7_item_8 : decode cX7_item 8 = .ok (.aload_n 0, 1) := by decide +kernel
theorem dX7_item_9 : decode cX7_item 9 = .ok (.getfield 49, 3) := by decide +kernel
theorem dX7_item_12 : decode cX7_item 12 = .ok (.iload 6, 2) := by decide +kernel
theorem dX7_item_14 : decode cX7_item 14 = .ok (.iload_n 1, 1) := by decide +kernel
theorem dX7_item_15 : decode cX7_item 15 = .ok (.iastore, 1) := by decide +kernel
theorem dX7_item_16 : decode cX7_item 16 = .ok (.aload_n 0, 1) := by decide +kernel
theorem dX7_item_17 : decode cX7_item 17 = .ok (.getfield 49, 3) := by decide +kernel
theorem dX7_item_20 : decode cX7_item 20 = .ok (.iload 6, 2) := by decide +kernel
theorem dX7_item_22 : decode cX7_item 22 = .ok (.iconst 1, 1) := by decide +kernel
theorem dX7_item_23 : decode cX7_item 23 = .ok (.iadd, 1) := by decide +kernel
theorem dX7_item_24 : decode cX7_item 24 = .ok (.iload_n 2, 1) := by decide +kernel
theorem dX7_item_25 : decode cX7_item 25 = .ok (.iastore, 1) := by decide +kernel
theorem dX7_item_26 : decode cX7_item 26 = .ok (.aload_n 0, 1) := by decide +kernel
theorem dX7_item_27 : decode cX7_item 27 = .ok (.getfield 49, 3) := by decide +kernel
theorem dX7_item_30 : decode cX7_item 30 = .ok (.iload 6, 2) := by decide +kernel
theorem dX7_item_32 : decode cX7_item 32 = .ok (.iconst 2, 1) := by decide +kernel
theorem dX7_item_33 : decode cX7_item 33 = .ok (.iadd, 1) := by decide +kernel
theorem dX7_item_34 : decode cX7_item 34 = .ok (.iload_n 3, 1) := by decide +kernel
theorem dX7_item_35 : decode cX7_item 35 = .ok (.iastore, 1) := by decide +kernel
theorem dX7_item_36 : decode cX7_item 36 = .ok (.aload_n 0, 1) := by decide +kernel
theorem dX7_item_37 : decode cX7_item 37 = .ok (.getfield 49, 3) := by decide +kernel
theorem dX7_item_40 : decode cX7_item 40 = .ok (.iload 6, 2) := by decide +kernel
theorem dX7_item_42 : decode cX7_item 42 = .ok (.iconst 3, 1) := by decide +kernel
theorem dX7_item_43 : decode cX7_item 43 = .ok (.iadd, 1) := by decide +kernel
theorem dX7_item_44 : decode cX7_item 44 = .ok (.iload 4, 2) := by decide +kernel
theorem dX7_item_46 : decode cX7_item 46 = .ok (.iastore, 1) := by decide +kernel
theorem dX7_item_47 : decode cX7_item 47 = .ok (.aload_n 0, 1) := by decide +kernel
theorem dX7_item_48 : decode cX7_item 48 = .ok (.getfield 49, 3) := by decide +kernel
theorem dX7_item_51 : decode cX7_item 51 = .ok (.iload 6, 2) := by decide +kernel
theorem dX7_item_53 : decode cX7_item 53 = .ok (.iconst 4, 1) := by decide +kernel
theorem dX7_item_54 : decode cX7_item 54 = .ok (.iadd, 1) := by decide +kernel
theorem dX7_item_55 : decode cX7_item 55 = .ok (.iload 5, 2) := by decide +kernel
theorem dX7_item_57 : decode cX7_item 57 = .ok (.iastore, 1) := by decide +kernel
theorem dX7_item_58 : decode cX7_item 58 = .ok (.aload_n 0, 1) := by decide +kernel
theorem dX7_item_59 : decode cX7_item 59 = .ok (.dup, 1) := by decide +kernel
theorem dX7_item_60 : decode cX7_item 60 = .ok (.getfield 263, 3) := by decide +kernel
theorem dX7_item_63 : decode cX7_item 63 = .ok (.iconst 1, 1) := by decide +kernel
theorem dX7_item_64 : decode cX7_item 64 = .ok (.iadd, 1) := by decide +kernel
theorem dX7_item_65 : decode cX7_item 65 = .ok (.putfield 263, 3) := by decide +kernel
theorem dX7_item_68 : decode cX7_item 68 = .ok (.return_, 1) := by decide +kernel
theorem dX7_kindTold_0 : decode cX7_kindTold 0 = .ok (.iconst (-1), 1) := by decide +kernel
theorem dX7_kindTold_1 : decode cX7_kindTold 1 = .ok (.istore_n 1, 1) := by decide +kernel
theorem dX7_kindTold_2 : decode cX7_kindTold 2 = .ok (.iconst 0, 1) := by decide +kernel
theorem dX7_kindTold_3 : decode cX7_kindTold 3 = .ok (.istore_n 2, 1) := by decide +kernel
theorem dX7_kindTold_4 : decode cX7_kindTold 4 = .ok (.iload_n 2, 1) := by decide +kernel
theorem dX7_kindTold_5 : decode cX7_kindTold 5 = .ok (.aload_n 0, 1) := by decide +kernel
theorem dX7_kindTold_6 : decode cX7_kindTold 6 = .ok (.getfield 45, 3) := by decide +kernel
theorem dX7_kindTold_9 : decode cX7_kindTold 9 = .ok (.arraylength, 1) := by decide +kernel
theorem dX7_kindTold_10 : decode cX7_kindTold 10 = .ok (.if_icmp .ge 28, 3) := by decide +kernel
theorem dX7_kindTold_13 : decode cX7_kindTold 13 = .ok (.aload_n 0, 1) := by decide +kernel
theorem dX7_kindTold_14 : decode cX7_kindTold 14 = .ok (.aload_n 0, 1) := by decide +kernel
theorem dX7_kindTold_15 : decode cX7_kindTold 15 = .ok (.getfield 45, 3) := by decide +kernel
theorem dX7_kindTold_18 : decode cX7_kindTold 18 = .ok (.iload_n 2, 1) := by decide +kernel
theorem dX7_kindTold_19 : decode cX7_kindTold 19 = .ok (.aaload, 1) := by decide +kernel
theorem dX7_kindTold_20 : decode cX7_kindTold 20 = .ok (.invokevirtual 266, 3) := by decide +kernel
theorem dX7_kindTold_23 : decode cX7_kindTold 23 = .ok (.ifCond .eq 7, 3) := by decide +kernel
theorem dX7_kindTold_26 : decode cX7_kindTold 26 = .ok (.iload_n 2, 1) := by decide +kernel
theorem dX7_kindTold_27 : decode cX7_kindTold 27 = .ok (.goto 4, 3) := by decide +kernel
theorem dX7_kindTold_30 : decode cX7_kindTold 30 = .ok (.iload_n 1, 1) := by decide +kernel
theorem dX7_kindTold_31 : decode cX7_kindTold 31 = .ok (.istore_n 1, 1) := by decide +kernel
theorem dX7_kindTold_32 : decode cX7_kindTold 32 = .ok (.iinc 2 1, 3) := by decide +kernel
