theorem dX0_init_0 : decode cX0_init 0 = .ok (.aload_n 0, 1) := by decide +kernel
theorem dX0_init_1 : decode cX0_init 1 = .ok (.invokespecial 3, 3) := by decide +kernel
theorem dX0_init_4 : decode cX0_init 4 = .ok (.aload_n 0, 1) := by decide +kernel
theorem dX0_init_5 : decode cX0_init 5 = .ok (.iconst 0, 1) := by decide +kernel
theorem dX0_init_6 : decode cX0_init 6 = .ok (.putfield 9, 3) := by decide +kernel
theorem dX0_init_9 : decode cX0_init 9 = .ok (.aload_n 0, 1) := by decide +kernel
theorem dX0_init_10 : decode cX0_init 10 = .ok (.iconst 0, 1) := by decide +kernel
theorem dX0_init_11 : decode cX0_init 11 = .ok (.putfield 15, 3) := by decide +kernel
theorem dX0_init_14 : decode cX0_init 14 = .ok (.aload_n 0, 1) := by decide +kernel
theorem dX0_init_15 : decode cX0_init 15 = .ok (.iconst 0, 1) := by decide +kernel
theorem dX0_init_16 : decode cX0_init 16 = .ok (.putfield 18, 3) := by decide +kernel
theorem dX0_init_19 : decode cX0_init 19 = .ok (.aload_n 0, 1) := by decide +kernel
theorem dX0_init_20 : decode cX0_init 20 = .ok (.iconst 0, 1) := by decide +kernel
theorem dX0_init_21 : decode cX0_init 21 = .ok (.putfield 21, 3) := by decide +kernel
theorem dX0_init_24 : decode cX0_init 24 = .ok (.aload_n 0, 1) := by decide +kernel
theorem dX0_init_25 : decode cX0_init 25 = .ok (.iconst 0, 1) := by decide +kernel
theorem dX0_init_26 : decode cX0_init 26 = .ok (.putfield 24, 3) := by decide +kernel
theorem dX0_init_29 : decode cX0_init 29 = .ok (.aload_n 0, 1) := by decide +kernel
theorem dX0_init_30 : decode cX0_init 30 = .ok (.iconst 0, 1) := by decide +kernel
theorem dX0_init_31 : decode cX0_init 31 = .ok (.putfield 27, 3) := by decide +kernel
theorem dX0_init_34 : decode cX0_init 34 = .ok (.return_, 1) := by decide +kernel
theorem dX0_become_0 : decode cX0_become 0 = .ok (.aload_n 0, 1) := by decide +kernel
theorem dX0_become_1 : decode cX0_become 1 = .ok (.aload_n 1, 1) := by decide +kernel
theorem dX0_become_2 : decode cX0_become 2 = .ok (.getfield 9, 3) := by decide +kernel
theorem dX0_become_5 : decode cX0_become 5 = .ok (.putfield 9, 3) := by decide +kernel
theorem dX0_become_8 : decode cX0_become 8 = .ok (.aload_n 0, 1) := by decide +kernel
theorem dX0_become_9 : decode cX0_become 9 = .ok (.aload_n 1, 1) := by decide +kernel
theorem dX0_become_10 : decode cX0_become 10 = .ok (.getfield 15, 3) := by decide +kernel
theorem dX0_become_13 : decode cX0_become 13 = .ok (.putfield 15, 3) := by decide +kernel
theorem dX0_become_16 : decode cX0_become 16 = .ok (.aload_n 0, 1) := by decide +kernel
theorem dX0_become_17 : decode cX0_become 17 = .ok (.aload_n 1, 1) := by decide +kernel
theorem dX0_become_18 : decode cX0_become 18 = .ok (.getfield 18, 3) := by decide +kernel
theorem dX0_become_21 : decode cX0_become 21 = .ok (.putfield 18, 3) := by decide +kernel
theorem dX0_become_24 : decode cX0_become 24 = .ok (.aload_n 0, 1) := by decide +kernel
theorem dX0_become_25 : decode cX0_become 25 = .ok (.aload_n 1, 1) := by decide +kernel
theorem dX0_become_26 : decode cX0_become 26 = .ok (.getfield 21, 3) := by decide +kernel
theorem dX0_become_29 : decode cX0_become 29 = .ok (.putfield 21, 3) := by decide +kernel
theorem dX0_become_32 : decode cX0_become 32 = .ok (.aload_n 0, 1) := by decide +kernel
theorem dX0_become_33 : decode cX0_become 33 = .ok (.aload_n 1, 1) := by decide +kernel
theorem dX0_become_34 : decode cX0_become 34 = .ok (.getfield 24, 3) := by decide +kernel
theorem dX0_become_37 : decode cX0_become 37 = .ok (.putfield 24, 3) := by decide +kernel
theorem dX0_become_40 : decode cX0_become 40 = .ok (.aload_n 0, 1) := by decide +kernel
theorem dX0_become_41 : decode cX0_become 41 = .ok (.aload_n 1, 1) := by decide +kernel
theorem dX0_become_42 : decode cX0_become 42 = .ok (.getfield 27, 3) := by decide +kernel
theorem dX0_become_45 : decode cX0_become 45 = .ok (.putfield 27, 3) := by decide +kernel
theorem dX0_become_48 : decode cX0_become 48 = .ok (.return_, 1) := by decide +kernel
theorem dX0_replace_0 : decode cX0_replace 0 = .ok (.iload_n 1, 1) := by decide +kernel
theorem dX0_replace_1 : decode cX0_replace 1 = .ok (.tableswitch 83 0 3 #[31, 44, 57, 70], 31) := by decide +kernel
theorem dX0_replace_32 : decode cX0_replace 32 = .ok (.aload_n 0, 1) := by decide +kernel
theorem dX0_replace_33 : decode cX0_replace 33 = .ok (.getfield 9, 3) := by decide +kernel
theorem dX0_replace_36 : decode cX0_replace 36 = .ok (.istore_n 3, 1) := by decide +kernel
theorem dX0_replace_37 : decode cX0_replace 37 = .ok (.aload_n 0, 1) := by decide +kernel
theorem dX0_replace_38 : decode cX0_replace 38 = .ok (.iload_n 2, 1) := by decide +kernel
theorem dX0_replace_39 : decode cX0_replace 39 = .ok (.putfield 9, 3) := by decide +kernel
theorem dX0_replace_42 : decode cX0_replace 42 = .ok (.goto 52, 3) := by decide +kernel
theorem dX0_replace_45 : decode cX0_replace 45 = .ok (.aload_n 0, 1) := by decide +kernel
theorem dX0_replace_46 : decode cX0_replace 46 = .ok (.getfield 15, 3) := by decide +kernel
theorem dX0_replace_49 : decode cX0_replace 49 = .ok (.istore_n 3, 1) := by decide +kernel
theorem dX0_replace_50 : decode cX0_replace 50 = .ok (.aload_n 0, 1) := by decide +kernel
theorem dX0_replace_51 : decode cX0_replace 51 = .ok (.iload_n 2, 1) := by decide +kernel
theorem dX0_replace_52 : decode cX0_replace 52 = .ok (.putfield 15, 3) := by decide +kernel
theorem dX0_replace_55 : decode cX0_replace 55 = .ok (.goto 39, 3) := by decide +kernel
theorem dX0_replace_58 : decode cX0_replace 58 = .ok (.aload_n 0, 1) := by decide +kernel
theorem dX0_replace_59 : decode cX0_replace 59 = .ok (.getfield 18, 3) := by decide +kernel
theorem dX0_replace_62 : decode cX0_replace 62 = .ok (.istore_n 3, 1) := by decide +kernel
theorem dX0_replace_63 : decode cX0_replace 63 = .ok (.aload_n 0, 1) := by decide +kernel
theorem dX0_replace_64 : decode cX0_replace 64 = .ok (.iload_n 2, 1) := by decide +kernel
theorem dX0_replace_65 : decode cX0_replace 65 = .ok (.putfield 18, 3) := by decide +kernel
theorem dX0_replace_68 : decode cX0_replace 68 = .ok (.goto 26, 3) := by decide +kernel
theorem dX0_replace_71 : decode cX0_replace 71 = .ok (.aload_n 0, 1) := by decide +kernel
theorem dX0_replace_72 : decode cX0_replace 72 = .ok (.getfield 21, 3) := by decide +kernel
theorem dX0_replace_75 : decode cX0_replace 75 = .ok (.istore_n 3, 1) := by decide +kernel
theorem dX0_replace_76 : decode cX0_replace 76 = .ok (.aload_n 0, 1) := by decide +kernel
theorem dX0_replace_77 : decode cX0_replace 77 = .ok (.iload_n 2, 1) := by decide +kernel
theorem dX0_replace_78 : decode cX0_replace 78 = .ok (.putfield 21, 3) := by decide +kernel
theorem dX0_replace_81 : decode cX0_replace 81 = .ok (.goto 13, 3) := by decide +kernel
theorem dX0_replace_84 : decode cX0_replace 84 = .ok (.aload_n 0, 1) := by decide +kernel
theorem dX0_replace_85 : decode cX0_replace 85 = .ok (.getfield 24, 3) := by decide +kernel
theorem dX0_replace_88 : decode cX0_replace 88 = .ok (.istore_n 3, 1) := by decide +kernel
theorem dX0_replace_89 : decode cX0_replace 89 = .ok (.aload_n 0, 1) := by decide +kernel
theorem dX0_replace_90 : decode cX0_replace 90 = .ok (.iload_n 2, 1) := by decide +kernel
theorem dX0_replace_91 : decode cX0_replace 91 = .ok (.putfield 24, 3) := by decide +kernel
theorem dX0_replace_94 : decode cX0_replace 94 = .ok (.iload_n 3, 1) := by decide +kernel
theorem dX0_replace_95 : decode cX0_replace 95 = .ok (.ireturn, 1) := by decide +kernel
theorem dX0_worthNow_0 : decode cX0_worthNow 0 = .ok (.aload_n 0, 1) := by decide +kernel
theorem dX0_worthNow_1 : decode cX0_worthNow 1 = .ok (.aload_n 0, 1) := by decide +kernel
theorem dX0_worthNow_2 : decode cX0_worthNow 2 = .ok (.getfield 9, 3) := by decide +kernel
theorem dX0_worthNow_5 : decode cX0_worthNow 5 = .ok (.aload_n 0, 1) := by decide +kernel
theorem dX0_worthNow_6 : decode cX0_worthNow 6 = .ok (.getfield 24, 3) := by decide +kernel
theorem dX0_worthNow_9 : decode cX0_worthNow 9 = .ok (.aload_n 0, 1) := by decide +kernel
theorem dX0_worthNow_10 : decode cX0_worthNow 10 = .ok (.getfield 27, 3) := by decide +kernel
theorem dX0_worthNow_13 : decode cX0_worthNow 13 = .ok (.aload_n 0, 1) := by decide +kernel
theorem dX0_worthNow_14 : decode cX0_worthNow 14 = .ok (.getfield 15, 3) := by decide +kernel
theorem dX0_worthNow_17 : decode cX0_worthNow 17 = .ok (.invokevirtual 30, 3) := by decide +kernel
theorem dX0_worthNow_20 : decode cX0_worthNow 20 = .ok (.ireturn, 1) := by decide +kernel
theorem dX0_worthOtherWay_0 : decode cX0_worthOtherWay 0 = .ok (.aload_n 0, 1) := by decide +kernel
theorem dX0_worthOtherWay_1 : decode cX0_worthOtherWay 1 = .ok (.aload_n 0, 1) := by decide +kernel
theorem dX0_worthOtherWay_2 : decode cX0_worthOtherWay 2 = .ok (.getfield 9, 3) := by decide +kernel
theorem dX0_worthOtherWay_5 : decode cX0_worthOtherWay 5 = .ok (.iconst 1, 1) := by decide +kernel
theorem dX0_worthOtherWay_6 : decode cX0_worthOtherWay 6 = .ok (.aload_n 0, 1) := by decide +kernel
theorem dX0_worthOtherWay_7 : decode cX0_worthOtherWay 7 = .ok (.getfield 24, 3) := by decide +kernel
theorem dX0_worthOtherWay_10 : decode cX0_worthOtherWay 10 = .ok (.isub, 1) := by decide +kernel
theorem dX0_worthOtherWay_11 : decode cX0_worthOtherWay 11 = .ok (.aload_n 0, 1) := by decide +kernel
theorem dX0_worthOtherWay_12 : decode cX0_worthOtherWay 12 = .ok (.getfield 27, 3) := by decide +kernel
theorem dX0_worthOtherWay_15 : decode cX0_worthOtherWay 15 = .ok (.aload_n 0, 1) := by decide +kernel
theorem dX0_worthOtherWay_16 : decode cX0_worthOtherWay 16 = .ok (.getfield 15, 3) := by decide +kernel
theorem dX0_worthOtherWay_19 : decode cX0_worthOtherWay 19 = .ok (.invokevirtual 30, 3) := by decide +kernel
theorem dX0_worthOtherWay_22 : decode cX0_worthOtherWay 22 = .ok (.ireturn, 1) := by decide +kernel
theorem dX0_worthAs_0 : decode cX0_worthAs 0 = .ok (.aload_n 0, 1) := by decide +kernel
theorem dX0_worthAs_1 : decode cX0_worthAs 1 = .ok (.iload_n 1, 1) := by decide +kernel
theorem dX0_worthAs_2 : decode cX0_worthAs 2 = .ok (.aload_n 0, 1) := by decide +kernel
theorem dX0_worthAs_3 : decode cX0_worthAs 3 = .ok (.getfield 24, 3) := by decide +kernel
theorem dX0_worthAs_6 : decode cX0_worthAs 6 = .ok (.aload_n 0, 1) := by decide +kernel
theorem dX0_worthAs_7 : decode cX0_worthAs 7 = .ok (.getfield 27, 3) := by decide +kernel
theorem dX0_worthAs_10 : decode cX0_worthAs 10 = .ok (.aload_n 0, 1) := by decide +kernel
theorem dX0_worthAs_11 : decode cX0_worthAs 11 = .ok (.getfield 15, 3) := by decide +kernel
theorem dX0_worthAs_14 : decode cX0_worthAs 14 = .ok (.invokevirtual 30, 3) := by decide +kernel
theorem dX0_worthAs_17 : decode cX0_worthAs 17 = .ok (.ireturn, 1) := by decide +kernel
theorem dX0_worthPaidTo_0 : decode cX0_worthPaidTo 0 = .ok (.aload_n 0, 1) := by decide +kernel
theorem dX0_worthPaidTo_1 : decode cX0_worthPaidTo 1 = .ok (.aload_n 0, 1) := by decide +kernel
theorem dX0_worthPaidTo_2 : decode cX0_worthPaidTo 2 = .ok (.getfield 9, 3) := by decide +kernel
theorem dX0_worthPaidTo_5 : decode cX0_worthPaidTo 5 = .ok (.aload_n 0, 1) := by decide +kernel
theorem dX0_worthPaidTo_6 : decode cX0_worthPaidTo 6 = .ok (.invokevirtual 34, 3) := by decide +kernel
theorem dX0_worthPaidTo_9 : decode cX0_worthPaidTo 9 = .ok (.aload_n 0, 1) := by decide +kernel
theorem dX0_worthPaidTo_10 : decode cX0_worthPaidTo 10 = .ok (.invokevirtual 38, 3) := by decide +kernel
theorem dX0_worthPaidTo_13 : decode cX0_worthPaidTo 13 = .ok (.iload_n 1, 1) := by decide +kernel
theorem dX0_worthPaidTo_14 : decode cX0_worthPaidTo 14 = .ok (.invokevirtual 30, 3) := by decide +kernel
theorem dX0_worthPaidTo_17 : decode cX0_worthPaidTo 17 = .ok (.ireturn, 1) := by decide +kernel
theorem dX0_worthIf_0 : decode cX0_worthIf 0 = .ok (.iload_n 2, 1) := by decide +kernel
theorem dX0_worthIf_1 : decode cX0_worthIf 1 = .ok (.ifCond .ne 10, 3) := by decide +kernel
theorem dX0_worthIf_4 : decode cX0_worthIf 4 = .ok (.aload_n 0, 1) := by decide +kernel
theorem dX0_worthIf_5 : decode cX0_worthIf 5 = .ok (.getfield 18, 3) := by decide +kernel
theorem dX0_worthIf_8 : decode cX0_worthIf 8 = .ok (.goto 7, 3) := by decide +kernel
theorem dX0_worthIf_11 : decode cX0_worthIf 11 = .ok (.aload_n 0, 1) := by decide +kernel
theorem dX0_worthIf_12 : decode cX0_worthIf 12 = .ok (.getfield 21, 3) := by decide +kernel
theorem dX0_worthIf_15 : decode cX0_worthIf 15 = .ok (.istore 5, 2) := by decide +kernel
theorem dX0_worthIf_17 : decode cX0_worthIf 17 = .ok (.iload_n 1, 1) := by decide +kernel
theorem dX0_worthIf_18 : decode cX0_worthIf 18 = .ok (.tableswitch 83 1 6 #[38, 83, 43, 38, 48, 57], 38) := by decide +kernel
theorem dX0_worthIf_56 : decode cX0_worthIf 56 = .ok (.iload 5, 2) := by decide +kernel
theorem dX0_worthIf_58 : decode cX0_worthIf 58 = .ok (.iconst 1, 1) := by decide +kernel
theorem dX0_worthIf_59 : decode cX0_worthIf 59 = .ok (.iadd, 1) := by decide +kernel
theorem dX0_worthIf_60 : decode cX0_worthIf 60 = .ok (.ireturn, 1) := by decide +kernel
theorem dX0_worthIf_61 : decode cX0_worthIf 61 = .ok (.aload_n 0, 1) := by decide +kernel
theorem dX0_worthIf_62 : decode cX0_worthIf 62 = .ok (.getfield 18, 3) := by decide +kernel
theorem dX0_worthIf_65 : decode cX0_worthIf 65 = .ok (.ireturn, 1) := by decide +kernel
theorem dX0_worthIf_66 : decode cX0_worthIf 66 = .ok (.iconst 0, 1) := by decide +kernel
theorem dX0_worthIf_67 : decode cX0_worthIf 67 = .ok (.iload 5, 2) := by decide +kernel
theorem dX0_worthIf_69 : decode cX0_worthIf 69 = .ok (.iload_n 3, 1) := by decide +kernel
theorem dX0_worthIf_70 : decode cX0_worthIf 70 = .ok (.isub, 1) := by decide +kernel
theorem dX0_worthIf_71 : decode cX0_worthIf 71 = .ok (.invokestatic 41, 3) := by decide +kernel
theorem dX0_worthIf_74 : decode cX0_worthIf 74 = .ok (.ireturn, 1) := by decide +kernel
theorem dX0_worthIf_75 : decode cX0_worthIf 75 = .ok (.iconst 0, 1) := by decide +kernel
theorem dX0_worthIf_76 : decode cX0_worthIf 76 = .ok (.iload 5, 2) := by decide +kernel
theorem dX0_worthIf_78 : decode cX0_worthIf 78 = .ok (.iload_n 3, 1) := by decide +kernel
theorem dX0_worthIf_79 : decode cX0_worthIf 79 = .ok (.isub, 1) := by decide +kernel
theorem dX0_worthIf_80 : decode cX0_worthIf 80 = .ok (.invokestatic 41, 3) := by decide +kernel
theorem dX0_worthIf_83 : decode cX0_worthIf 83 = .ok (.istore 6, 2) := by decide +kernel
theorem dX0_worthIf_85 : decode cX0_worthIf 85 = .ok (.iload 4, 2) := by decide +kernel
theorem dX0_worthIf_87 : decode cX0_worthIf 87 = .ok (.iconst 3, 1) := by decide +kernel
theorem dX0_worthIf_88 : decode cX0_worthIf 88 = .ok (.if_icmp .ne 8, 3) := by decide +kernel
theorem dX0_worthIf_91 : decode cX0_worthIf 91 = .ok (.iload 6, 2) := by decide +kernel
theorem dX0_worthIf_93 : decode cX0_worthIf 93 = .ok (.goto 7, 3) := by decide +kernel
theorem dX0_worthIf_96 : decode cX0_worthIf 96 = .ok (.iload 6, 2) := by decide +kernel
theorem dX0_worthIf_98 : decode cX0_worthIf 98 = .ok (.iconst 2, 1) := by decide +kernel
theorem dX0_worthIf_99 : decode cX0_worthIf 99 = .ok (.idiv, 1) := by decide +kernel
theorem dX0_worthIf_100 : decode cX0_worthIf 100 = .ok (.ireturn, 1) := by decide +kernel
theorem dX0_worthIf_101 : decode cX0_worthIf 101 = .ok (.iload 5, 2) := by decide +kernel
theorem dX0_worthIf_103 : decode cX0_worthIf 103 = .ok (.ireturn, 1) := by decide +kernel
theorem dX0_liesTurned_0 : decode cX0_liesTurned 0 = .ok (.aload_n 0, 1) := by decide +kernel
theorem dX0_liesTurned_1 : decode cX0_liesTurned 1 = .ok (.getfield 9, 3) := by decide +kernel
theorem dX0_liesTurned_4 : decode cX0_liesTurned 4 = .ok (.iconst 2, 1) := by decide +kernel
theorem dX0_liesTurned_5 : decode cX0_liesTurned 5 = .ok (.if_icmp .eq 19, 3) := by decide +kernel
theorem dX0_liesTurned_8 : decode cX0_liesTurned 8 = .ok (.aload_n 0, 1) := by decide +kernel
theorem dX0_liesTurned_9 : decode cX0_liesTurned 9 = .ok (.getfield 9, 3) := by decide +kernel
theorem dX0_liesTurned_12 : decode cX0_liesTurned 12 = .ok (.iconst 3, 1) := by decide +kernel
theorem dX0_liesTurned_13 : decode cX0_liesTurned 13 = .ok (.if_icmp .eq 11, 3) := by decide +kernel
theorem dX0_liesTurned_16 : decode cX0_liesTurned 16 = .ok (.aload_n 0, 1) := by decide +kernel
theorem dX0_liesTurned_17 : decode cX0_liesTurned 17 = .ok (.getfield 9, 3) := by decide +kernel
theorem dX0_liesTurned_20 : decode cX0_liesTurned 20 = .ok (.iconst 4, 1) := by decide +kernel
theorem dX0_liesTurned_21 : decode cX0_liesTurned 21 = .ok (.if_icmp .ne 10, 3) := by decide +kernel
theorem dX0_liesTurned_24 : decode cX0_liesTurned 24 = .ok (.aload_n 0, 1) := by decide +kernel
theorem dX0_liesTurned_25 : decode cX0_liesTurned 25 = .ok (.getfield 24, 3) := by decide +kernel
theorem dX0_liesTurned_28 : decode cX0_liesTurned 28 = .ok (.goto 9, 3) := by decide +kernel
theorem dX0_liesTurned_31 : decode cX0_liesTurned 31 = .ok (.iconst 1, 1) := by decide +kernel
theorem dX0_liesTurned_32 : decode cX0_liesTurned 32 = .ok (.aload_n 0, 1) := by decide +kernel
theorem dX0_liesTurned_33 : decode cX0_liesTurned 33 = .ok (.getfield 24, 3) := by decide +kernel
theorem dX0_liesTurned_36 : decode cX0_liesTurned 36 = .ok (.isub, 1) := by decide +kernel
theorem dX0_liesTurned_37 : decode cX0_liesTurned 37 = .ok (.ireturn, 1) := by decide +kernel
theorem dX0_turnsTurned_0 : decode cX0_turnsTurned 0 = .ok (.aload_n 0, 1) := by decide +kernel
theorem dX0_turnsTurned_1 : decode cX0_turnsTurned 1 = .ok (.getfield 9, 3) := by decide +kernel
theorem dX0_turnsTurned_4 : decode cX0_turnsTurned 4 = .ok (.tableswitch 40 2 4 #[28, 28, 33], 28) := by decide +kernel
theorem dX0_turnsTurned_32 : decode cX0_turnsTurned 32 = .ok (.aload_n 0, 1) := by decide +kernel
theorem dX0_turnsTurned_33 : decode cX0_turnsTurned 33 = .ok (.getfield 27, 3) := by decide +kernel
theorem dX0_turnsTurned_36 : decode cX0_turnsTurned 36 = .ok (.ireturn, 1) := by decide +kernel
theorem dX0_turnsTurned_37 : decode cX0_turnsTurned 37 = .ok (.aload_n 0, 1) := by decide +kernel
theorem dX0_turnsTurned_38 : decode cX0_turnsTurned 38 = .ok (.getfield 27, 3) := by decide +kernel
theorem dX0_turnsTurned_41 : decode cX0_turnsTurned 41 = .ok (.iconst 2, 1) := by decide +kernel
theorem dX0_turnsTurned_42 : decode cX0_turnsTurned 42 = .ok (.iadd, 1) := by decide +kernel
theorem dX0_turnsTurned_43 : decode cX0_turnsTurned 43 = .ok (.ireturn, 1) := by decide +kernel
theorem dX0_turnsTurned_44 : decode cX0_turnsTurned 44 = .ok (.aload_n 0, 1) := by decide +kernel
theorem dX0_turnsTurned_45 : decode cX0_turnsTurned 45 = .ok (.getfield 27, 3) := by decide +kernel
theorem dX0_turnsTurned_48 : decode cX0_turnsTurned 48 = .ok (.iconst 1, 1) := by decide +kernel
theorem dX0_turnsTurned_49 : decode cX0_turnsTurned 49 = .ok (.iadd, 1) := by decide +kernel
theorem dX0_turnsTurned_50 : decode cX0_turnsTurned 50 = .ok (.ireturn, 1) := by decide +kernel
theorem dX0_turnOver_0 : decode cX0_turnOver 0 = .ok (.aload_n 0, 1) := by decide +kernel
theorem dX0_turnOver_1 : decode cX0_turnOver 1 = .ok (.invokevirtual 34, 3) := by decide +kernel
theorem dX0_turnOver_4 : decode cX0_turnOver 4 = .ok (.istore_n 1, 1) := by decide +kernel
theorem dX0_turnOver_5 : decode cX0_turnOver 5 = .ok (.aload_n 0, 1) := by decide +kernel
theorem dX0_turnOver_6 : decode cX0_turnOver 6 = .ok (.aload_n 0, 1) := by decide +kernel
theorem dX0_turnOver_7 : decode cX0_turnOver 7 = .ok (.invokevirtual 38, 3) := by decide +kernel
theorem dX0_turnOver_10 : decode cX0_turnOver 10 = .ok (.putfield 27, 3) := by decide +kernel
theorem dX0_turnOver_13 : decode cX0_turnOver 13 = .ok (.aload_n 0, 1) := by decide +kernel
theorem dX0_turnOver_14 : decode cX0_turnOver 14 = .ok (.iload_n 1, 1) := by decide +kernel
theorem dX0_turnOver_15 : decode cX0_turnOver 15 = .ok (.putfield 24, 3) := by decide +kernel
theorem dX0_turnOver_18 : decode cX0_turnOver 18 = .ok (.return_, 1) := by decide +kernel
theorem dX0_payTo_0 : decode cX0_payTo 0 = .ok (.aload_n 0, 1) := by decide +kernel
theorem dX0_payTo_1 : decode cX0_payTo 1 = .ok (.invokevirtual 47, 3) := by decide +kernel
theorem dX0_payTo_4 : decode cX0_payTo 4 = .ok (.aload_n 0, 1) := by decide +kernel
theorem dX0_payTo_5 : decode cX0_payTo 5 = .ok (.iload_n 1, 1) := by decide +kernel
theorem dX0_payTo_6 : decode cX0_payTo 6 = .ok (.putfield 15, 3) := by decide +kernel
theorem dX0_payTo_9 : decode cX0_payTo 9 = .ok (.return_, 1) := by decide +kernel
theorem dX0_isA_0 : decode cX0_isA 0 = .ok (.aload_n 0, 1) := by decide +kernel
theorem dX0_isA_1 : decode cX0_isA 1 = .ok (.getfield 9, 3) := by decide +kernel
theorem dX0_isA_4 : decode cX0_isA 4 = .ok (.istore_n 2, 1) := by decide +kernel
theorem dX0_isA_5 : decode cX0_isA 5 = .ok (.iconst 0, 1) := by decide +kernel
theorem dX0_isA_6 : decode cX0_isA 6 = .ok (.istore_n 3, 1) := by decide +kernel
theorem dX0_isA_7 : decode cX0_isA 7 = .ok (.iload_n 3, 1) := by decide +kernel
theorem dX0_isA_8 : decode cX0_isA 8 = .ok (.bipush 7, 2) := by decide +kernel
theorem dX0_isA_10 : decode cX0_isA 10 = .ok (.if_icmp .ge 32, 3) := by decide +kernel
theorem dX0_isA_13 : decode cX0_isA 13 = .ok (.iload_n 2, 1) := by decide +kernel
theorem dX0_isA_14 : decode cX0_isA 14 = .ok (.ifCond .lt 28, 3) := by decide +kernel
theorem dX0_isA_17 : decode cX0_isA 17 = .ok (.iload_n 2, 1) := by decide +kernel
theorem dX0_isA_18 : decode cX0_isA 18 = .ok (.bipush 7, 2) := by decide +kernel
theorem dX0_isA_20 : decode cX0_isA 20 = .ok (.if_icmp .ge 22, 3) := by decide +kernel
theorem dX0_isA_23 : decode cX0_isA 23 = .ok (.iload_n 2, 1) := by decide +kernel
theorem dX0_isA_24 : decode cX0_isA 24 = .ok (.iload_n 1, 1) := by decide +kernel
theorem dX0_isA_25 : decode cX0_isA 25 = .ok (.if_icmp .ne 5, 3) := by decide +kernel
theorem dX0_isA_28 : decode cX0_isA 28 = .ok (.iconst 1, 1) := by decide +kernel
theorem dX0_isA_29 : decode cX0_isA 29 = .ok (.ireturn, 1) := by decide +kernel
theorem dX0_isA_30 : decode cX0_isA 30 = .ok (.getstatic 50, 3) := by decide +kernel
theorem dX0_isA_33 : decode cX0_isA 33 = .ok (.iload_n 2, 1) := by decide +kernel
theorem dX0_isA_34 : decode cX0_isA 34 = .ok (.iaload, 1) := by decide +kernel
theorem dX0_isA_35 : decode cX0_isA 35 = .ok (.istore_n 2, 1) := by decide +kernel
theorem dX0_isA_36 : decode cX0_isA 36 = .ok (.iinc 3 1, 3) := by decide +kernel
theorem dX0_isA_39 : decode cX0_isA 39 = .ok (.goto (-32), 3) := by decide +kernel
theorem dX0_isA_42 : decode cX0_isA 42 = .ok (.iconst 0, 1) := by decide +kernel
theorem dX0_isA_43 : decode cX0_isA 43 = .ok (.ireturn, 1) := by decide +kernel
theorem dX1_init_0 : decode cX1_init 0 = .ok (.aload_n 0, 1) := by decide +kernel
theorem dX1_init_1 : decode cX1_init 1 = .ok (.invokespecial 3, 3) := by decide +kernel
theorem dX1_init_4 : decode cX1_init 4 = .ok (.aload_n 0, 1) := by decide +kernel
theorem dX1_init_5 : decode cX1_init 5 = .ok (.bipush 10, 2) := by decide +kernel
theorem dX1_init_7 : decode cX1_init 7 = .ok (.anewarray 9, 3) := by decide +kernel
theorem dX1_init_10 : decode cX1_init 10 = .ok (.putfield 11, 3) := by decide +kernel
theorem dX1_init_13 : decode cX1_init 13 = .ok (.aload_n 0, 1) := by decide +kernel
theorem dX1_init_14 : decode cX1_init 14 = .ok (.bipush 10, 2) := by decide +kernel
theorem dX1_init_16 : decode cX1_init 16 = .ok (.newarray .int, 2) := by decide +kernel
theorem dX1_init_18 : decode cX1_init 18 = .ok (.putfield 17, 3) := by decide +kernel
theorem dX1_init_21 : decode cX1_init 21 = .ok (.aload_n 0, 1) := by decide +kernel
theorem dX1_init_22 : decode cX1_init 22 = .ok (.iconst 0, 1) := by decide +kernel
theorem dX1_init_23 : decode cX1_init 23 = .ok (.putfield 21, 3) := by decide +kernel
theorem dX1_init_26 : decode cX1_init 26 = .ok (.aload_n 0, 1) := by decide +kernel
theorem dX1_init_27 : decode cX1_init 27 = .ok (.iconst 0, 1) := by decide +kernel
theorem dX1_init_28 : decode cX1_init 28 = .ok (.putfield 25, 3) := by decide +kernel
theorem dX1_init_31 : decode cX1_init 31 = .ok (.aload_n 0, 1) := by decide +kernel
theorem dX1_init_32 : decode cX1_init 32 = .ok (.iconst 1, 1) := by decide +kernel
theorem dX1_init_33 : decode cX1_init 33 = .ok (.putfield 28, 3) := by decide +kernel
theorem dX1_init_36 : decode cX1_init 36 = .ok (.iconst 0, 1) := by decide +kernel
theorem dX1_init_37 : decode cX1_init 37 = .ok (.istore_n 1, 1) := by decide +kernel
theorem dX1_init_38 : decode cX1_init 38 = .ok (.iload_n 1, 1) := by decide +kernel
theorem dX1_init_39 : decode cX1_init 39 = .ok (.bipush 10, 2) := by decide +kernel
theorem dX1_init_41 : decode cX1_init 41 = .ok (.if_icmp .ge 22, 3) := by decide +kernel
theorem dX1_init_44 : decode cX1_init 44 = .ok (.aload_n 0, 1) := by decide +kernel
theorem dX1_init_45 : decode cX1_init 45 = .ok (.getfield 11, 3) := by decide +kernel
theorem dX1_init_48 : decode cX1_init 48 = .ok (.iload_n 1, 1) := by decide +kernel
theorem dX1_init_49 : decode cX1_init 49 = .ok (.new 9, 3) := by decide +kernel
theorem dX1_init_52 : decode cX1_init 52 = .ok (.dup, 1) := by decide +kernel
theorem dX1_init_53 : decode cX1_init 53 = .ok (.invokespecial 31, 3) := by decide +kernel
theorem dX1_init_56 : decode cX1_init 56 = .ok (.aastore, 1) := by decide +kernel
theorem dX1_init_57 : decode cX1_init 57 = .ok (.iinc 1 1, 3) := by decide +kernel
theorem dX1_init_60 : decode cX1_init 60 = .ok (.goto (-22), 3) := by decide +kernel
theorem dX1_init_63 : decode cX1_init 63 = .ok (.aload_n 0, 1) := by decide +kernel
theorem dX1_init_64 : decode cX1_init 64 = .ok (.getfield 17, 3) := by decide +kernel
theorem dX1_init_67 : decode cX1_init 67 = .ok (.iconst (-1), 1) := by decide +kernel
theorem dX1_init_68 : decode cX1_init 68 = .ok (.invokestatic 32, 3) := by decide +kernel
theorem dX1_init_71 : decode cX1_init 71 = .ok (.return_, 1) := by decide +kernel
theorem dX1_become_0 : decode cX1_become 0 = .ok (.iconst 0, 1) := by decide +kernel
theorem dX1_become_1 : decode cX1_become 1 = .ok (.istore_n 2, 1) := by decide +kernel
theorem dX1_become_2 : decode cX1_become 2 = .ok (.iload_n 2, 1) := by decide +kernel
theorem dX1_become_3 : decode cX1_become 3 = .ok (.aload_n 1, 1) := by decide +kernel
theorem dX1_become_4 : decode cX1_become 4 = .ok (.getfield 21, 3) := by decide +kernel
theorem dX1_become_7 : decode cX1_become 7 = .ok (.if_icmp .ge 24, 3) := by decide +kernel
theorem dX1_become_10 : decode cX1_become 10 = .ok (.aload_n 0, 1) := by decide +kernel
theorem dX1_become_11 : decode cX1_become 11 = .ok (.getfield 11, 3) := by decide +kernel
theorem dX1_become_14 : decode cX1_become 14 = .ok (.iload_n 2, 1) := by decide +kernel
theorem dX1_become_15 : decode cX1_become 15 = .ok (.aaload, 1) := by decide +kernel
theorem dX1_become_16 : decode cX1_become 16 = .ok (.aload_n 1, 1) := by decide +kernel
theorem dX1_become_17 : decode cX1_become 17 = .ok (.getfield 11, 3) := by decide +kernel
theorem dX1_become_20 : decode cX1_become 20 = .ok (.iload_n 2, 1) := by decide +kernel
theorem dX1_become_21 : decode cX1_become 21 = .ok (.aaload, 1) := by decide +kernel
theorem dX1_become_22 : decode cX1_become 22 = .ok (.invokevirtual 38, 3) := by decide +kernel
theorem dX1_become_25 : decode cX1_become 25 = .ok (.iinc 2 1, 3) := by decide +kernel
theorem dX1_become_28 : decode cX1_become 28 = .ok (.goto (-26), 3) := by decide +kernel
theorem dX1_become_31 : decode cX1_become 31 = .ok (.aload_n 1, 1) := by decide +kernel
theorem dX1_become_32 : decode cX1_become 32 = .ok (.getfield 17, 3) := by decide +kernel
theorem dX1_become_35 : decode cX1_become 35 = .ok (.iconst 0, 1) := by decide +kernel
theorem dX1_become_36 : decode cX1_become 36 = .ok (.aload_n 0, 1) := by decide +kernel
theorem dX1_become_37 : decode cX1_become 37 = .ok (.getfield 17, 3) := by decide +kernel
theorem dX1_become_40 : decode cX1_become 40 = .ok (.iconst 0, 1) := by decide +kernel
theorem dX1_become_41 : decode cX1_become 41 = .ok (.bipush 10, 2) := by decide +kernel
theorem dX1_become_43 : decode cX1_become 43 = .ok (.invokestatic 42, 3) := by decide +kernel
theorem dX1_become_46 : decode cX1_become 46 = .ok (.aload_n 0, 1) := by decide +kernel
theorem dX1_become_47 : decode cX1_become 47 = .ok (.aload_n 1, 1) := by decide +kernel
theorem dX1_become_48 : decode cX1_become 48 = .ok (.getfield 21, 3) := by decide +kernel
theorem dX1_become_51 : decode cX1_become 51 = .ok (.putfield 21, 3) := by decide +kernel
theorem dX1_become_54 : decode cX1_become 54 = .ok (.aload_n 0, 1) := by decide +kernel
theorem dX1_become_55 : decode cX1_become 55 = .ok (.aload_n 1, 1) := by decide +kernel
theorem dX1_become_56 : decode cX1_become 56 = .ok (.getfield 25, 3) := by decide +kernel
theorem dX1_become_59 : decode cX1_become 59 = .ok (.putfield 25, 3) := by decide +kernel
theorem dX1_become_62 : decode cX1_become 62 = .ok (.aload_n 0, 1) := by decide +kernel
theorem dX1_become_63 : decode cX1_become 63 = .ok (.aload_n 1, 1) := by decide +kernel
theorem dX1_become_64 : decode cX1_become 64 = .ok (.getfield 28, 3) := by decide +kernel
theorem dX1_become_67 : decode cX1_become 67 = .ok (.putfield 28, 3) := by decide +kernel
theorem dX1_become_70 : decode cX1_become 70 = .ok (.return_, 1) := by decide +kernel
theorem dX1_hasCoin_0 : decode cX1_hasCoin 0 = .ok (.iload_n 1, 1) := by decide +kernel
theorem dX1_hasCoin_1 : decode cX1_hasCoin 1 = .ok (.ifCond .lt 15, 3) := by decide +kernel
theorem dX1_hasCoin_4 : decode cX1_hasCoin 4 = .ok (.iload_n 1, 1) := by decide +kernel
theorem dX1_hasCoin_5 : decode cX1_hasCoin 5 = .ok (.aload_n 0, 1) := by decide +kernel
theorem dX1_hasCoin_6 : decode cX1_hasCoin 6 = .ok (.getfield 21, 3) := by decide +kernel
theorem dX1_hasCoin_9 : decode cX1_hasCoin 9 = .ok (.if_icmp .ge 7, 3) := by decide +kernel
theorem dX1_hasCoin_12 : decode cX1_hasCoin 12 = .ok (.iconst 1, 1) := by decide +kernel
theorem dX1_hasCoin_13 : decode cX1_hasCoin 13 = .ok (.goto 4, 3) := by decide +kernel
theorem dX1_hasCoin_16 : decode cX1_hasCoin 16 = .ok (.iconst 0, 1) := by decide +kernel
theorem dX1_hasCoin_17 : decode cX1_hasCoin 17 = .ok (.ireturn, 1) := by decide +kernel
theorem dX1_hasSet_0 : decode cX1_hasSet 0 = .ok (.iload_n 1, 1) := by decide +kernel
theorem dX1_hasSet_1 : decode cX1_hasSet 1 = .ok (.aload_n 0, 1) := by decide +kernel
theorem dX1_hasSet_2 : decode cX1_hasSet 2 = .ok (.invokevirtual 48, 3) := by decide +kernel
theorem dX1_hasSet_5 : decode cX1_hasSet 5 = .ok (.iconst (-1), 1) := by decide +kernel
theorem dX1_hasSet_6 : decode cX1_hasSet 6 = .ok (.ixor, 1) := by decide +kernel
theorem dX1_hasSet_7 : decode cX1_hasSet 7 = .ok (.iand, 1) := by decide +kernel
theorem dX1_hasSet_8 : decode cX1_hasSet 8 = .ok (.ifCond .ne 7, 3) := by decide +kernel
theorem dX1_hasSet_11 : decode cX1_hasSet 11 = .ok (.iconst 1, 1) := by decide +kernel
theorem dX1_hasSet_12 : decode cX1_hasSet 12 = .ok (.goto 4, 3) := by decide +kernel
theorem dX1_hasSet_15 : decode cX1_hasSet 15 = .ok (.iconst 0, 1) := by decide +kernel
theorem dX1_hasSet_16 : decode cX1_hasSet 16 = .ok (.ireturn, 1) := by decide +kernel
theorem dX1_addCoin_0 : decode cX1_addCoin 0 = .ok (.aload_n 0, 1) := by decide +kernel
theorem dX1_addCoin_1 : decode cX1_addCoin 1 = .ok (.getfield 11, 3) := by decide +kernel
theorem dX1_addCoin_4 : decode cX1_addCoin 4 = .ok (.aload_n 0, 1) := by decide +kernel
theorem dX1_addCoin_5 : decode cX1_addCoin 5 = .ok (.getfield 21, 3) := by decide +kernel
theorem dX1_addCoin_8 : decode cX1_addCoin 8 = .ok (.aaload, 1) := by decide +kernel
theorem dX1_addCoin_9 : decode cX1_addCoin 9 = .ok (.astore 4, 2) := by decide +kernel
theorem dX1_addCoin_11 : decode cX1_addCoin 11 = .ok (.aload 4, 2) := by decide +kernel
theorem dX1_addCoin_13 : decode cX1_addCoin 13 = .ok (.iload_n 1, 1) := by decide +kernel
theorem dX1_addCoin_14 : decode cX1_addCoin 14 = .ok (.putfield 52, 3) := by decide +kernel
theorem dX1_addCoin_17 : decode cX1_addCoin 17 = .ok (.aload 4, 2) := by decide +kernel
theorem dX1_addCoin_19 : decode cX1_addCoin 19 = .ok (.iconst 0, 1) := by decide +kernel
theorem dX1_addCoin_20 : decode cX1_addCoin 20 = .ok (.putfield 55, 3) := by decide +kernel
theorem dX1_addCoin_23 : decode cX1_addCoin 23 = .ok (.aload 4, 2) := by decide +kernel
theorem dX1_addCoin_25 : decode cX1_addCoin 25 = .ok (.iload_n 2, 1) := by decide +kernel
theorem dX1_addCoin_26 : decode cX1_addCoin 26 = .ok (.putfield 58, 3) := by decide +kernel
theorem dX1_addCoin_29 : decode cX1_addCoin 29 = .ok (.aload 4, 2) := by decide +kernel
theorem dX1_addCoin_31 : decode cX1_addCoin 31 = .ok (.iload_n 3, 1) := by decide +kernel
theorem dX1_addCoin_32 : decode cX1_addCoin 32 = .ok (.putfield 61, 3) := by decide +kernel
theorem dX1_addCoin_35 : decode cX1_addCoin 35 = .ok (.aload 4, 2) := by decide +kernel
theorem dX1_addCoin_37 : decode cX1_addCoin 37 = .ok (.iconst 0, 1) := by decide +kernel
theorem dX1_addCoin_38 : decode cX1_addCoin 38 = .ok (.putfield 64, 3) := by decide +kernel
theorem dX1_addCoin_41 : decode cX1_addCoin 41 = .ok (.aload 4, 2) := by decide +kernel
theorem dX1_addCoin_43 : decode cX1_addCoin 43 = .ok (.iconst 0, 1) := by decide +kernel
theorem dX1_addCoin_44 : decode cX1_addCoin 44 = .ok (.putfield 67, 3) := by decide +kernel
theorem dX1_addCoin_47 : decode cX1_addCoin 47 = .ok (.aload_n 0, 1) := by decide +kernel
theorem dX1_addCoin_48 : decode cX1_addCoin 48 = .ok (.dup, 1) := by decide +kernel
theorem dX1_addCoin_49 : decode cX1_addCoin 49 = .ok (.getfield 21, 3) := by decide +kernel
theorem dX1_addCoin_52 : decode cX1_addCoin 52 = .ok (.iconst 1, 1) := by decide +kernel
theorem dX1_addCoin_53 : decode cX1_addCoin 53 = .ok (.iadd, 1) := by decide +kernel
theorem dX1_addCoin_54 : decode cX1_addCoin 54 = .ok (.putfield 21, 3) := by decide +kernel
theorem dX1_addCoin_57 : decode cX1_addCoin 57 = .ok (.aload_n 0, 1) := by decide +kernel
theorem dX1_addCoin_58 : decode cX1_addCoin 58 = .ok (.getfield 21, 3) := by decide +kernel
theorem dX1_addCoin_61 : decode cX1_addCoin 61 = .ok (.iconst 1, 1) := by decide +kernel
theorem dX1_addCoin_62 : decode cX1_addCoin 62 = .ok (.isub, 1) := by decide +kernel
theorem dX1_addCoin_63 : decode cX1_addCoin 63 = .ok (.ireturn, 1) := by decide +kernel
theorem dX1_allCoins_0 : decode cX1_allCoins 0 = .ok (.iconst 1, 1) := by decide +kernel
theorem dX1_allCoins_1 : decode cX1_allCoins 1 = .ok (.aload_n 0, 1) := by decide +kernel
theorem dX1_allCoins_2 : decode cX1_allCoins 2 = .ok (.getfield 21, 3) := by decide +kernel
theorem dX1_allCoins_5 : decode cX1_allCoins 5 = .ok (.ishl, 1) := by decide +kernel
theorem dX1_allCoins_6 : decode cX1_allCoins 6 = .ok (.iconst 1, 1) := by decide +kernel
theorem dX1_allCoins_7 : decode cX1_allCoins 7 = .ok (.isub, 1) := by decide +kernel
theorem dX1_allCoins_8 : decode cX1_allCoins 8 = .ok (.ireturn, 1) := by decide +kernel
theorem dX1_coinsIn_0 : decode cX1_coinsIn 0 = .ok (.iconst 0, 1) := by decide +kernel
theorem dX1_coinsIn_1 : decode cX1_coinsIn 1 = .ok (.istore_n 2, 1) := by decide +kernel
theorem dX1_coinsIn_2 : decode cX1_coinsIn 2 = .ok (.iconst 0, 1) := by decide +kernel
theorem dX1_coinsIn_3 : decode cX1_coinsIn 3 = .ok (.istore_n 3, 1) := by decide +kernel
theorem dX1_coinsIn_4 : decode cX1_coinsIn 4 = .ok (.iload_n 3, 1) := by decide +kernel
theorem dX1_coinsIn_5 : decode cX1_coinsIn 5 = .ok (.aload_n 0, 1) := by decide +kernel
theorem dX1_coinsIn_6 : decode cX1_coinsIn 6 = .ok (.getfield 21, 3) := by decide +kernel
theorem dX1_coinsIn_9 : decode cX1_coinsIn 9 = .ok (.if_icmp .ge 28, 3) := by decide +kernel
theorem dX1_coinsIn_12 : decode cX1_coinsIn 12 = .ok (.aload_n 0, 1) := by decide +kernel
theorem dX1_coinsIn_13 : decode cX1_coinsIn 13 = .ok (.getfield 11, 3) := by decide +kernel
theorem dX1_coinsIn_16 : decode cX1_coinsIn 16 = .ok (.iload_n 3, 1) := by decide +kernel
theorem dX1_coinsIn_17 : decode cX1_coinsIn 17 = .ok (.aaload, 1) := by decide +kernel
theorem dX1_coinsIn_18 : decode cX1_coinsIn 18 = .ok (.getfield 55, 3) := by decide +kernel
theorem dX1_coinsIn_21 : decode cX1_coinsIn 21 = .ok (.iload_n 1, 1) := by decide +kernel
theorem dX1_coinsIn_22 : decode cX1_coinsIn 22 = .ok (.if_icmp .ne 9, 3) := by decide +kernel
theorem dX1_coinsIn_25 : decode cX1_coinsIn 25 = .ok (.iload_n 2, 1) := by decide +kernel
theorem dX1_coinsIn_26 : decode cX1_coinsIn 26 = .ok (.iconst 1, 1) := by decide +kernel
theorem dX1_coinsIn_27 : decode cX1_coinsIn 27 = .ok (.iload_n 3, 1) := by decide +kernel
theorem dX1_coinsIn_28 : decode cX1_coinsIn 28 = .ok (.ishl, 1) := by decide +kernel
theorem dX1_coinsIn_29 : decode cX1_coinsIn 29 = .ok (.ior, 1) := by decide +kernel
theorem dX1_coinsIn_30 : decode cX1_coinsIn 30 = .ok (.istore_n 2, 1) := by decide +kernel
theorem dX1_coinsIn_31 : decode cX1_coinsIn 31 = .ok (.iinc 3 1, 3) := by decide +kernel
theorem dX1_coinsIn_34 : decode cX1_coinsIn 34 = .ok (.goto (-30), 3) := by decide +kernel
theorem dX1_coinsIn_37 : decode cX1_coinsIn 37 = .ok (.iload_n 2, 1) := by decide +kernel
theorem dX1_coinsIn_38 : decode cX1_coinsIn 38 = .ok (.ireturn, 1) := by decide +kernel
theorem dX1_coinsLying_0 : decode cX1_coinsLying 0 = .ok (.iconst 0, 1) := by decide +kernel
theorem dX1_coinsLying_1 : decode cX1_coinsLying 1 = .ok (.istore_n 2, 1) := by decide +kernel
theorem dX1_coinsLying_2 : decode cX1_coinsLying 2 = .ok (.iconst 0, 1) := by decide +kernel
theorem dX1_coinsLying_3 : decode cX1_coinsLying 3 = .ok (.istore_n 3, 1) := by decide +kernel
theorem dX1_coinsLying_4 : decode cX1_coinsLying 4 = .ok (.iload_n 3, 1) := by decide +kernel
theorem dX1_coinsLying_5 : decode cX1_coinsLying 5 = .ok (.aload_n 0, 1) := by decide +kernel
theorem dX1_coinsLying_6 : decode cX1_coinsLying 6 = .ok (.getfield 21, 3) := by decide +kernel
theorem dX1_coinsLying_9 : decode cX1_coinsLying 9 = .ok (.if_icmp .ge 28, 3) := by decide +kernel
theorem dX1_coinsLying_12 : decode cX1_coinsLying 12 = .ok (.aload_n 0, 1) := by decide +kernel
theorem dX1_coinsLying_13 : decode cX1_coinsLying 13 = .ok (.getfield 11, 3) := by decide +kernel
theorem dX1_coinsLying_16 : decode cX1_coinsLying 16 = .ok (.iload_n 3, 1) := by decide +kernel
theorem dX1_coinsLying_17 : decode cX1_coinsLying 17 = .ok (.aaload, 1) := by decide +kernel
theorem dX1_coinsLying_18 : decode cX1_coinsLying 18 = .ok (.getfield 64, 3) := by decide +kernel
theorem dX1_coinsLying_21 : decode cX1_coinsLying 21 = .ok (.iload_n 1, 1) := by decide +kernel
theorem dX1_coinsLying_22 : decode cX1_coinsLying 22 = .ok (.if_icmp .ne 9, 3) := by decide +kernel
theorem dX1_coinsLying_25 : decode cX1_coinsLying 25 = .ok (.iload_n 2, 1) := by decide +kernel
theorem dX1_coinsLying_26 : decode cX1_coinsLying 26 = .ok (.iconst 1, 1) := by decide +kernel
theorem dX1_coinsLying_27 : decode cX1_coinsLying 27 = .ok (.iload_n 3, 1) := by decide +kernel
theorem dX1_coinsLying_28 : decode cX1_coinsLying 28 = .ok (.ishl, 1) := by decide +kernel
theorem dX1_coinsLying_29 : decode cX1_coinsLying 29 = .ok (.ior, 1) := by decide +kernel
theorem dX1_coinsLying_30 : decode cX1_coinsLying 30 = .ok (.istore_n 2, 1) := by decide +kernel
theorem dX1_coinsLying_31 : decode cX1_coinsLying 31 = .ok (.iinc 3 1, 3) := by decide +kernel
theorem dX1_coinsLying_34 : decode cX1_coinsLying 34 = .ok (.goto (-30), 3) := by decide +kernel
theorem dX1_coinsLying_37 : decode cX1_coinsLying 37 = .ok (.iload_n 2, 1) := by decide +kernel
theorem dX1_coinsLying_38 : decode cX1_coinsLying 38 = .ok (.ireturn, 1) := by decide +kernel
theorem dX1_worthOf_0 : decode cX1_worthOf 0 = .ok (.iconst 0, 1) := by decide +kernel
theorem dX1_worthOf_1 : decode cX1_worthOf 1 = .ok (.istore_n 2, 1) := by decide +kernel
theorem dX1_worthOf_2 : decode cX1_worthOf 2 = .ok (.iconst 0, 1) := by decide +kernel
theorem dX1_worthOf_3 : decode cX1_worthOf 3 = .ok (.istore_n 3, 1) := by decide +kernel
theorem dX1_worthOf_4 : decode cX1_worthOf 4 = .ok (.iload_n 3, 1) := by decide +kernel
theorem dX1_worthOf_5 : decode cX1_worthOf 5 = .ok (.aload_n 0, 1) := by decide +kernel
theorem dX1_worthOf_6 : decode cX1_worthOf 6 = .ok (.getfield 21, 3) := by decide +kernel
theorem dX1_worthOf_9 : decode cX1_worthOf 9 = .ok (.if_icmp .ge 29, 3) := by decide +kernel
theorem dX1_worthOf_12 : decode cX1_worthOf 12 = .ok (.iload_n 1, 1) := by decide +kernel
theorem dX1_worthOf_13 : decode cX1_worthOf 13 = .ok (.iload_n 3, 1) := by decide +kernel
theorem dX1_worthOf_14 : decode cX1_worthOf 14 = .ok (.invokestatic 70, 3) := by decide +kernel
theorem dX1_worthOf_17 : decode cX1_worthOf 17 = .ok (.ifCond .eq 15, 3) := by decide +kernel
theorem dX1_worthOf_20 : decode cX1_worthOf 20 = .ok (.iload_n 2, 1) := by decide +kernel
theorem dX1_worthOf_21 : decode cX1_worthOf 21 = .ok (.aload_n 0, 1) := by decide +kernel
theorem dX1_worthOf_22 : decode cX1_worthOf 22 = .ok (.getfield 11, 3) := by decide +kernel
theorem dX1_worthOf_25 : decode cX1_worthOf 25 = .ok (.iload_n 3, 1) := by decide +kernel
theorem dX1_worthOf_26 : decode cX1_worthOf 26 = .ok (.aaload, 1) := by decide +kernel
theorem dX1_worthOf_27 : decode cX1_worthOf 27 = .ok (.invokevirtual 74, 3) := by decide +kernel
theorem dX1_worthOf_30 : decode cX1_worthOf 30 = .ok (.iadd, 1) := by decide +kernel
theorem dX1_worthOf_31 : decode cX1_worthOf 31 = .ok (.istore_n 2, 1) := by decide +kernel
theorem dX1_worthOf_32 : decode cX1_worthOf 32 = .ok (.iinc 3 1, 3) := by decide +kernel
theorem dX1_worthOf_35 : decode cX1_worthOf 35 = .ok (.goto (-31), 3) := by decide +kernel
theorem dX1_worthOf_38 : decode cX1_worthOf 38 = .ok (.iload_n 2, 1) := by decide +kernel
theorem dX1_worthOf_39 : decode cX1_worthOf 39 = .ok (.ireturn, 1) := by decide +kernel
theorem dX1_worthIfTurned_0 : decode cX1_worthIfTurned 0 = .ok (.iconst 0, 1) := by decide +kernel
theorem dX1_worthIfTurned_1 : decode cX1_worthIfTurned 1 = .ok (.istore_n 2, 1) := by decide +kernel
theorem dX1_worthIfTurned_2 : decode cX1_worthIfTurned 2 = .ok (.iconst 0, 1) := by decide +kernel
theorem dX1_worthIfTurned_3 : decode cX1_worthIfTurned 3 = .ok (.istore_n 3, 1) := by decide +kernel
theorem dX1_worthIfTurned_4 : decode cX1_worthIfTurned 4 = .ok (.iload_n 3, 1) := by decide +kernel
theorem dX1_worthIfTurned_5 : decode cX1_worthIfTurned 5 = .ok (.aload_n 0, 1) := by decide +kernel
theorem dX1_worthIfTurned_6 : decode cX1_worthIfTurned 6 = .ok (.getfield 21, 3) := by decide +kernel
theorem dX1_worthIfTurned_9 : decode cX1_worthIfTurned 9 = .ok (.if_icmp .ge 38, 3) := by decide +kernel
theorem dX1_worthIfTurned_12 : decode cX1_worthIfTurned 12 = .ok (.iload_n 1, 1) := by decide +kernel
theorem dX1_worthIfTurned_13 : decode cX1_worthIfTurned 13 = .ok (.iload_n 3, 1) := by decide +kernel
theorem dX1_worthIfTurned_14 : decode cX1_worthIfTurned 14 = .ok (.invokestatic 70, 3) := by decide +kernel
theorem dX1_worthIfTurned_17 : decode cX1_worthIfTurned 17 = .ok (.ifCond .eq 24, 3) := by decide +kernel
theorem dX1_worthIfTurned_20 : decode cX1_worthIfTurned 20 = .ok (.iload_n 2, 1) := by decide +kernel
theorem dX1_worthIfTurned_21 : decode cX1_worthIfTurned 21 = .ok (.aload_n 0, 1) := by decide +kernel
theorem dX1_worthIfTurned_22 : decode cX1_worthIfTurned 22 = .ok (.getfield 11, 3) := by decide +kernel
theorem dX1_worthIfTurned_25 : decode cX1_worthIfTurned 25 = .ok (.iload_n 3, 1) := by decide +kernel
theorem dX1_worthIfTurned_26 : decode cX1_worthIfTurned 26 = .ok (.aaload, 1) := by decide +kernel
theorem dX1_worthIfTurned_27 : decode cX1_worthIfTurned 27 = .ok (.aload_n 0, 1) := by decide +kernel
theorem dX1_worthIfTurned_28 : decode cX1_worthIfTurned 28 = .ok (.getfield 11, 3) := by decide +kernel
theorem dX1_worthIfTurned_31 : decode cX1_worthIfTurned 31 = .ok (.iload_n 3, 1) := by decide +kernel
theorem dX1_worthIfTurned_32 : decode cX1_worthIfTurned 32 = .ok (.aaload, 1) := by decide +kernel
theorem dX1_worthIfTurned_33 : decode cX1_worthIfTurned 33 = .ok (.getfield 55, 3) := by decide +kernel
theorem dX1_worthIfTurned_36 : decode cX1_worthIfTurned 36 = .ok (.invokevirtual 77, 3) := by decide +kernel
theorem dX1_worthIfTurned_39 : decode cX1_worthIfTurned 39 = .ok (.iadd, 1) := by decide +kernel
theorem dX1_worthIfTurned_40 : decode cX1_worthIfTurned 40 = .ok (.istore_n 2, 1) := by decide +kernel
theorem dX1_worthIfTurned_41 : decode cX1_worthIfTurned 41 = .ok (.iinc 3 1, 3) := by decide +kernel
theorem dX1_worthIfTurned_44 : decode cX1_worthIfTurned 44 = .ok (.goto (-40), 3) := by decide +kernel
theorem dX1_worthIfTurned_47 : decode cX1_worthIfTurned 47 = .ok (.iload_n 2, 1) := by decide +kernel
theorem dX1_worthIfTurned_48 : decode cX1_worthIfTurned 48 = .ok (.ireturn, 1) := by decide +kernel
theorem dX1_paySet_0 : decode cX1_paySet 0 = .ok (.iconst 0, 1) := by decide +kernel
theorem dX1_paySet_1 : decode cX1_paySet 1 = .ok (.istore_n 3, 1) := by decide +kernel
theorem dX1_paySet_2 : decode cX1_paySet 2 = .ok (.iload_n 3, 1) := by decide +kernel
theorem dX1_paySet_3 : decode cX1_paySet 3 = .ok (.aload_n 0, 1) := by decide +kernel
theorem dX1_paySet_4 : decode cX1_paySet 4 = .ok (.getfield 21, 3) := by decide +kernel
theorem dX1_paySet_7 : decode cX1_paySet 7 = .ok (.if_icmp .ge 27, 3) := by decide +kernel
theorem dX1_paySet_10 : decode cX1_paySet 10 = .ok (.iload_n 1, 1) := by decide +kernel
theorem dX1_paySet_11 : decode cX1_paySet 11 = .ok (.iload_n 3, 1) := by decide +kernel
theorem dX1_paySet_12 : decode cX1_paySet 12 = .ok (.invokestatic 70, 3) := by decide +kernel
theorem dX1_paySet_15 : decode cX1_paySet 15 = .ok (.ifCond .eq 13, 3) := by decide +kernel
theorem dX1_paySet_18 : decode cX1_paySet 18 = .ok (.aload_n 0, 1) := by decide +kernel
theorem dX1_paySet_19 : decode cX1_paySet 19 = .ok (.getfield 11, 3) := by decide +kernel
theorem dX1_paySet_22 : decode cX1_paySet 22 = .ok (.iload_n 3, 1) := by decide +kernel
theorem dX1_paySet_23 : decode cX1_paySet 23 = .ok (.aaload, 1) := by decide +kernel
theorem dX1_paySet_24 : decode cX1_paySet 24 = .ok (.iload_n 2, 1) := by decide +kernel
theorem dX1_paySet_25 : decode cX1_paySet 25 = .ok (.invokevirtual 81, 3) := by decide +kernel
theorem dX1_paySet_28 : decode cX1_paySet 28 = .ok (.iinc 3 1, 3) := by decide +kernel
theorem dX1_paySet_31 : decode cX1_paySet 31 = .ok (.goto (-29), 3) := by decide +kernel
theorem dX1_paySet_34 : decode cX1_paySet 34 = .ok (.return_, 1) := by decide +kernel
theorem dX1_exchange_0 : decode cX1_exchange 0 = .ok (.aload_n 0, 1) := by decide +kernel
theorem dX1_exchange_1 : decode cX1_exchange 1 = .ok (.iload_n 1, 1) := by decide +kernel
theorem dX1_exchange_2 : decode cX1_exchange 2 = .ok (.iload_n 2, 1) := by decide +kernel
theorem dX1_exchange_3 : decode cX1_exchange 3 = .ok (.invokevirtual 85, 3) := by decide +kernel
theorem dX1_exchange_6 : decode cX1_exchange 6 = .ok (.aload_n 0, 1) := by decide +kernel
theorem dX1_exchange_7 : decode cX1_exchange 7 = .ok (.iload_n 3, 1) := by decide +kernel
theorem dX1_exchange_8 : decode cX1_exchange 8 = .ok (.iload 4, 2) := by decide +kernel
theorem dX1_exchange_10 : decode cX1_exchange 10 = .ok (.invokevirtual 85, 3) := by decide +kernel
theorem dX1_exchange_13 : decode cX1_exchange 13 = .ok (.return_, 1) := by decide +kernel
theorem dX1_turnsOfAll_0 : decode cX1_turnsOfAll 0 = .ok (.iconst 0, 1) := by decide +kernel
theorem dX1_turnsOfAll_1 : decode cX1_turnsOfAll 1 = .ok (.istore_n 1, 1) := by decide +kernel
theorem dX1_turnsOfAll_2 : decode cX1_turnsOfAll 2 = .ok (.iconst 0, 1) := by decide +kernel
theorem dX1_turnsOfAll_3 : decode cX1_turnsOfAll 3 = .ok (.istore_n 2, 1) := by decide +kernel
theorem dX1_turnsOfAll_4 : decode cX1_turnsOfAll 4 = .ok (.iload_n 2, 1) := by decide +kernel
theorem dX1_turnsOfAll_5 : decode cX1_turnsOfAll 5 = .ok (.aload_n 0, 1) := by decide +kernel
theorem dX1_turnsOfAll_6 : decode cX1_turnsOfAll 6 = .ok (.getfield 21, 3) := by decide +kernel
theorem dX1_turnsOfAll_9 : decode cX1_turnsOfAll 9 = .ok (.if_icmp .ge 21, 3) := by decide +kernel
theorem dX1_turnsOfAll_12 : decode cX1_turnsOfAll 12 = .ok (.iload_n 1, 1) := by decide +kernel
theorem dX1_turnsOfAll_13 : decode cX1_turnsOfAll 13 = .ok (.aload_n 0, 1) := by decide +kernel
theorem dX1_turnsOfAll_14 : decode cX1_turnsOfAll 14 = .ok (.getfield 11, 3) := by decide +kernel
theorem dX1_turnsOfAll_17 : decode cX1_turnsOfAll 17 = .ok (.iload_n 2, 1) := by decide +kernel
theorem dX1_turnsOfAll_18 : decode cX1_turnsOfAll 18 = .ok (.aaload, 1) := by decide +kernel
theorem dX1_turnsOfAll_19 : decode cX1_turnsOfAll 19 = .ok (.getfield 67, 3) := by decide +kernel
theorem dX1_turnsOfAll_22 : decode cX1_turnsOfAll 22 = .ok (.iadd, 1) := by decide +kernel
theorem dX1_turnsOfAll_23 : decode cX1_turnsOfAll 23 = .ok (.istore_n 1, 1) := by decide +kernel
theorem dX1_turnsOfAll_24 : decode cX1_turnsOfAll 24 = .ok (.iinc 2 1, 3) := by decide +kernel
theorem dX1_turnsOfAll_27 : decode cX1_turnsOfAll 27 = .ok (.goto (-23), 3) := by decide +kernel
theorem dX1_turnsOfAll_30 : decode cX1_turnsOfAll 30 = .ok (.iload_n 1, 1) := by decide +kernel
theorem dX1_turnsOfAll_31 : decode cX1_turnsOfAll 31 = .ok (.ireturn, 1) := by decide +kernel
theorem dX1_spotsHeld_0 : decode cX1_spotsHeld 0 = .ok (.iconst 0, 1) := by decide +kernel
theorem dX1_spotsHeld_1 : decode cX1_spotsHeld 1 = .ok (.istore_n 1, 1) := by decide +kernel
theorem dX1_spotsHeld_2 : decode cX1_spotsHeld 2 = .ok (.iconst 0, 1) := by decide +kernel
theorem dX1_spotsHeld_3 : decode cX1_spotsHeld 3 = .ok (.istore_n 2, 1) := by decide +kernel
theorem dX1_spotsHeld_4 : decode cX1_spotsHeld 4 = .ok (.iload_n 2, 1) := by decide +kernel
theorem dX1_spotsHeld_5 : decode cX1_spotsHeld 5 = .ok (.bipush 10, 2) := by decide +kernel
theorem dX1_spotsHeld_7 : decode cX1_spotsHeld 7 = .ok (.if_icmp .ge 22, 3) := by decide +kernel
theorem dX1_spotsHeld_10 : decode cX1_spotsHeld 10 = .ok (.aload_n 0, 1) := by decide +kernel
theorem dX1_spotsHeld_11 : decode cX1_spotsHeld 11 = .ok (.getfield 17, 3) := by decide +kernel
theorem dX1_spotsHeld_14 : decode cX1_spotsHeld 14 = .ok (.iload_n 2, 1) := by decide +kernel
theorem dX1_spotsHeld_15 : decode cX1_spotsHeld 15 = .ok (.iaload, 1) := by decide +kernel
theorem dX1_spotsHeld_16 : decode cX1_spotsHeld 16 = .ok (.iconst (-1), 1) := by decide +kernel
theorem dX1_spotsHeld_17 : decode cX1_spotsHeld 17 = .ok (.if_icmp .eq 6, 3) := by decide +kernel
theorem dX1_spotsHeld_20 : decode cX1_spotsHeld 20 = .ok (.iinc 1 1, 3) := by decide +kernel
theorem dX1_spotsHeld_23 : decode cX1_spotsHeld 23 = .ok (.iinc 2 1, 3) := by decide +kernel
theorem dX1_spotsHeld_26 : decode cX1_spotsHeld 26 = .ok (.goto (-22), 3) := by decide +kernel
theorem dX1_spotsHeld_29 : decode cX1_spotsHeld 29 = .ok (.iload_n 1, 1) := by decide +kernel
theorem dX1_spotsHeld_30 : decode cX1_spotsHeld 30 = .ok (.ireturn, 1) := by decide +kernel
theorem dX1_draw_0 : decode cX1_draw 0 = .ok (.aload_n 0, 1) := by decide +kernel
theorem dX1_draw_1 : decode cX1_draw 1 = .ok (.aload_n 0, 1) := by decide +kernel
theorem dX1_draw_2 : decode cX1_draw 2 = .ok (.getfield 28, 3) := by decide +kernel
theorem dX1_draw_5 : decode cX1_draw 5 = .ok (.ldc 89, 2) := by decide +kernel
theorem dX1_draw_7 : decode cX1_draw 7 = .ok (.imul, 1) := by decide +kernel
theorem dX1_draw_8 : decode cX1_draw 8 = .ok (.sipush 12345, 3) := by decide +kernel
theorem dX1_draw_11 : decode cX1_draw 11 = .ok (.iadd, 1) := by decide +kernel
theorem dX1_draw_12 : decode cX1_draw 12 = .ok (.putfield 28, 3) := by decide +kernel
theorem dX1_draw_15 : decode cX1_draw 15 = .ok (.aload_n 0, 1) := by decide +kernel
theorem dX1_draw_16 : decode cX1_draw 16 = .ok (.getfield 28, 3) := by decide +kernel
theorem dX1_draw_19 : decode cX1_draw 19 = .ok (.bipush 8, 2) := by decide +kernel
theorem dX1_draw_21 : decode cX1_draw 21 = .ok (.iushr, 1) := by decide +kernel
theorem dX1_draw_22 : decode cX1_draw 22 = .ok (.ireturn, 1) := by decide +kernel
theorem dX1_passDays_0 : decode cX1_passDays 0 = .ok (.iconst 0, 1) := by decide +kernel
theorem dX1_passDays_1 : decode cX1_passDays 1 = .ok (.istore_n 2, 1) := by decide +kernel
theorem dX1_passDays_2 : decode cX1_passDays 2 = .ok (.iconst 0, 1) := by decide +kernel
theorem dX1_passDays_3 : decode cX1_passDays 3 = .ok (.istore_n 3, 1) := by decide +kernel
theorem dX1_passDays_4 : decode cX1_passDays 4 = .ok (.iload_n 3, 1) := by decide +kernel
theorem dX1_passDays_5 : decode cX1_passDays 5 = .ok (.iload_n 1, 1) := by decide +kernel
theorem dX1_passDays_6 : decode cX1_passDays 6 = .ok (.if_icmp .ge 36, 3) := by decide +kernel
theorem dX1_passDays_9 : decode cX1_passDays 9 = .ok (.aload_n 0, 1) := by decide +kernel
theorem dX1_passDays_10 : decode cX1_passDays 10 = .ok (.getfield 25, 3) := by decide +kernel
theorem dX1_passDays_13 : decode cX1_passDays 13 = .ok (.bipush 7, 2) := by decide +kernel
theorem dX1_passDays_15 : decode cX1_passDays 15 = .ok (.irem, 1) := by decide +kernel
theorem dX1_passDays_16 : decode cX1_passDays 16 = .ok (.ifCond .ne 10, 3) := by decide +kernel
theorem dX1_passDays_19 : decode cX1_passDays 19 = .ok (.iload_n 2, 1) := by decide +kernel
theorem dX1_passDays_20 : decode cX1_passDays 20 = .ok (.aload_n 0, 1) := by decide +kernel
theorem dX1_passDays_21 : decode cX1_passDays 21 = .ok (.invokevirtual 90, 3) := by decide +kernel
theorem dX1_passDays_24 : decode cX1_passDays 24 = .ok (.iadd, 1) := by decide +kernel
theorem dX1_passDays_25 : decode cX1_passDays 25 = .ok (.istore_n 2, 1) := by decide +kernel
theorem dX1_passDays_26 : decode cX1_passDays 26 = .ok (.aload_n 0, 1) := by decide +kernel
theorem dX1_passDays_27 : decode cX1_passDays 27 = .ok (.dup, 1) := by decide +kernel
theorem dX1_passDays_28 : decode cX1_passDays 28 = .ok (.getfield 25, 3) := by decide +kernel
theorem dX1_passDays_31 : decode cX1_passDays 31 = .ok (.iconst 1, 1) := by decide +kernel
theorem dX1_passDays_32 : decode cX1_passDays 32 = .ok (.iadd, 1) := by decide +kernel
theorem dX1_passDays_33 : decode cX1_passDays 33 = .ok (.putfield 25, 3) := by decide +kernel
theorem dX1_passDays_36 : decode cX1_passDays 36 = .ok (.iinc 3 1, 3) := by decide +kernel
theorem dX1_passDays_39 : decode cX1_passDays 39 = .ok (.goto (-35), 3) := by decide +kernel
theorem dX1_passDays_42 : decode cX1_passDays 42 = .ok (.iload_n 2, 1) := by decide +kernel
theorem dX1_passDays_43 : decode cX1_passDays 43 = .ok (.ireturn, 1) := by decide +kernel
theorem dX1_turnShips_0 : decode cX1_turnShips 0 = .ok (.iconst 0, 1) := by decide +kernel
theorem dX1_turnShips_1 : decode cX1_turnShips 1 = .ok (.istore_n 1, 1) := by decide +kernel
theorem dX1_turnShips_2 : decode cX1_turnShips 2 = .ok (.iconst 0, 1) := by decide +kernel
theorem dX1_turnShips_3 : decode cX1_turnShips 3 = .ok (.istore_n 2, 1) := by decide +kernel
theorem dX1_turnShips_4 : decode cX1_turnShips 4 = .ok (.iload_n 2, 1) := by decide +kernel
theorem dX1_turnShips_5 : decode cX1_turnShips 5 = .ok (.aload_n 0, 1) := by decide +kernel
theorem dX1_turnShips_6 : decode cX1_turnShips 6 = .ok (.getfield 21, 3) := by decide +kernel
theorem dX1_turnShips_9 : decode cX1_turnShips 9 = .ok (.if_icmp .ge 34, 3) := by decide +kernel
theorem dX1_turnShips_12 : decode cX1_turnShips 12 = .ok (.aload_n 0, 1) := by decide +kernel
theorem dX1_turnShips_13 : decode cX1_turnShips 13 = .ok (.getfield 11, 3) := by decide +kernel
theorem dX1_turnShips_16 : decode cX1_turnShips 16 = .ok (.iload_n 2, 1) := by decide +kernel
theorem dX1_turnShips_17 : decode cX1_turnShips 17 = .ok (.aaload, 1) := by decide +kernel
theorem dX1_turnShips_18 : decode cX1_turnShips 18 = .ok (.getfield 64, 3) := by decide +kernel
theorem dX1_turnShips_21 : decode cX1_turnShips 21 = .ok (.iconst 1, 1) := by decide +kernel
theorem dX1_turnShips_22 : decode cX1_turnShips 22 = .ok (.if_icmp .ne 15, 3) := by decide +kernel
theorem dX1_turnShips_25 : decode cX1_turnShips 25 = .ok (.aload_n 0, 1) := by decide +kernel
theorem dX1_turnShips_26 : decode cX1_turnShips 26 = .ok (.getfield 11, 3) := by decide +kernel
theorem dX1_turnShips_29 : decode cX1_turnShips 29 = .ok (.iload_n 2, 1) := by decide +kernel
theorem dX1_turnShips_30 : decode cX1_turnShips 30 = .ok (.aaload, 1) := by decide +kernel
theorem dX1_turnShips_31 : decode cX1_turnShips 31 = .ok (.invokevirtual 93, 3) := by decide +kernel
theorem dX1_turnShips_34 : decode cX1_turnShips 34 = .ok (.iinc 1 1, 3) := by decide +kernel
theorem dX1_turnShips_37 : decode cX1_turnShips 37 = .ok (.iinc 2 1, 3) := by decide +kernel
theorem dX1_turnShips_40 : decode cX1_turnShips 40 = .ok (.goto (-36), 3) := by decide +kernel
theorem dX1_turnShips_43 : decode cX1_turnShips 43 = .ok (.iload_n 1, 1) := by decide +kernel
theorem dX1_turnShips_44 : decode cX1_turnShips 44 = .ok (.ireturn, 1) := by decide +kernel
theorem dX2_init_0 : decode cX2_init 0 = .ok (.aload_n 0, 1) := by decide +kernel
theorem dX2_init_1 : decode cX2_init 1 = .ok (.invokespecial 5, 3) := by decide +kernel
theorem dX2_init_4 : decode cX2_init 4 = .ok (.aload_n 0, 1) := by decide +kernel
theorem dX2_init_5 : decode cX2_init 5 = .ok (.bipush 11, 2) := by decide +kernel
theorem dX2_init_7 : decode cX2_init 7 = .ok (.bipush 16, 2) := by decide +kernel
theorem dX2_init_9 : decode cX2_init 9 = .ok (.multianewarray 11 2, 4) := by decide +kernel
theorem dX2_init_13 : decode cX2_init 13 = .ok (.putfield 13, 3) := by decide +kernel
theorem dX2_init_16 : decode cX2_init 16 = .ok (.aload_n 0, 1) := by decide +kernel
theorem dX2_init_17 : decode cX2_init 17 = .ok (.bipush 16, 2) := by decide +kernel
theorem dX2_init_19 : decode cX2_init 19 = .ok (.newarray .long, 2) := by decide +kernel
theorem dX2_init_21 : decode cX2_init 21 = .ok (.putfield 16, 3) := by decide +kernel
theorem dX2_init_24 : decode cX2_init 24 = .ok (.aload_n 0, 1) := by decide +kernel
theorem dX2_init_25 : decode cX2_init 25 = .ok (.iconst 1, 1) := by decide +kernel
theorem dX2_init_26 : decode cX2_init 26 = .ok (.putfield 20, 3) := by decide +kernel
theorem dX2_init_29 : decode cX2_init 29 = .ok (.aload_n 0, 1) := by decide +kernel
theorem dX2_init_30 : decode cX2_init 30 = .ok (.bipush 16, 2) := by decide +kernel
theorem dX2_init_32 : decode cX2_init 32 = .ok (.putfield 24, 3) := by decide +kernel
theorem dX2_init_35 : decode cX2_init 35 = .ok (.aload_n 0, 1) := by decide +kernel
theorem dX2_init_36 : decode cX2_init 36 = .ok (.bipush 10, 2) := by decide +kernel
theorem dX2_init_38 : decode cX2_init 38 = .ok (.newarray .int, 2) := by decide +kernel
theorem dX2_init_40 : decode cX2_init 40 = .ok (.putfield 28, 3) := by decide +kernel
theorem dX2_init_43 : decode cX2_init 43 = .ok (.aload_n 0, 1) := by decide +kernel
theorem dX2_init_44 : decode cX2_init 44 = .ok (.bipush 10, 2) := by decide +kernel
theorem dX2_init_46 : decode cX2_init 46 = .ok (.newarray .int, 2) := by decide +kernel
theorem dX2_init_48 : decode cX2_init 48 = .ok (.putfield 32, 3) := by decide +kernel
theorem dX2_init_51 : decode cX2_init 51 = .ok (.aload_n 0, 1) := by decide +kernel
theorem dX2_init_52 : decode cX2_init 52 = .ok (.bipush 10, 2) := by decide +kernel
theorem dX2_init_54 : decode cX2_init 54 = .ok (.newarray .int, 2) := by decide +kernel
theorem dX2_init_56 : decode cX2_init 56 = .ok (.putfield 35, 3) := by decide +kernel
theorem dX2_init_59 : decode cX2_init 59 = .ok (.aload_n 0, 1) := by decide +kernel
theorem dX2_init_60 : decode cX2_init 60 = .ok (.iconst 0, 1) := by decide +kernel
theorem dX2_init_61 : decode cX2_init 61 = .ok (.putfield 38, 3) := by decide +kernel
theorem dX2_init_64 : decode cX2_init 64 = .ok (.aload_n 0, 1) := by decide +kernel
theorem dX2_init_65 : decode cX2_init 65 = .ok (.sipush 11264, 3) := by decide +kernel
theorem dX2_init_68 : decode cX2_init 68 = .ok (.putfield 41, 3) := by decide +kernel
theorem dX2_init_71 : decode cX2_init 71 = .ok (.return_, 1) := by decide +kernel
theorem dX2_gather_0 : decode cX2_gather 0 = .ok (.aload_n 0, 1) := by decide +kernel
theorem dX2_gather_1 : decode cX2_gather 1 = .ok (.bipush 16, 2) := by decide +kernel
theorem dX2_gather_3 : decode cX2_gather 3 = .ok (.putfield 24, 3) := by decide +kernel
theorem dX2_gather_6 : decode cX2_gather 6 = .ok (.aload_n 0, 1) := by decide +kernel
theorem dX2_gather_7 : decode cX2_gather 7 = .ok (.invokevirtual 44, 3) := by decide +kernel
theorem dX2_gather_10 : decode cX2_gather 10 = .ok (.iconst 0, 1) := by decide +kernel
theorem dX2_gather_11 : decode cX2_gather 11 = .ok (.istore_n 3, 1) := by decide +kernel
theorem dX2_gather_12 : decode cX2_gather 12 = .ok (.iload_n 3, 1) := by decide +kernel
theorem dX2_gather_13 : decode cX2_gather 13 = .ok (.aload_n 1, 1) := by decide +kernel
theorem dX2_gather_14 : decode cX2_gather 14 = .ok (.getfield 47, 3) := by decide +kernel
theorem dX2_gather_17 : decode cX2_gather 17 = .ok (.if_icmp .ge 42, 3) := by decide +kernel
theorem dX2_gather_20 : decode cX2_gather 20 = .ok (.iload_n 2, 1) := by decide +kernel
theorem dX2_gather_21 : decode cX2_gather 21 = .ok (.iload_n 3, 1) := by decide +kernel
theorem dX2_gather_22 : decode cX2_gather 22 = .ok (.invokestatic 52, 3) := by decide +kernel
theorem dX2_gather_25 : decode cX2_gather 25 = .ok (.ifCond .eq 28, 3) := by decide +kernel
theorem dX2_gather_28 : decode cX2_gather 28 = .ok (.aload_n 0, 1) := by decide +kernel
theorem dX2_gather_29 : decode cX2_gather 29 = .ok (.aload_n 0, 1) := by decide +kernel
theorem dX2_gather_30 : decode cX2_gather 30 = .ok (.getfield 13, 3) := by decide +kernel
theorem dX2_gather_33 : decode cX2_gather 33 = .ok (.iconst 0, 1) := by decide +kernel
theorem dX2_gather_34 : decode cX2_gather 34 = .ok (.aaload, 1) := by decide +kernel
theorem dX2_gather_35 : decode cX2_gather 35 = .ok (.aload_n 0, 1) := by decide +kernel
theorem dX2_gather_36 : decode cX2_gather 36 = .ok (.getfield 13, 3) := by decide +kernel
theorem dX2_gather_39 : decode cX2_gather 39 = .ok (.iconst 0, 1) := by decide +kernel
theorem dX2_gather_40 : decode cX2_gather 40 = .ok (.aaload, 1) := by decide +kernel
theorem dX2_gather_41 : decode cX2_gather 41 = .ok (.aload_n 1, 1) := by decide +kernel
theorem dX2_gather_42 : decode cX2_gather 42 = .ok (.getfield 56, 3) := by decide +kernel
theorem dX2_gather_45 : decode cX2_gather 45 = .ok (.iload_n 3, 1) := by decide +kernel
theorem dX2_gather_46 : decode cX2_gather 46 = .ok (.aaload, 1) := by decide +kernel
theorem dX2_gather_47 : decode cX2_gather 47 = .ok (.invokevirtual 60, 3) := by decide +kernel
theorem dX2_gather_50 : decode cX2_gather 50 = .ok (.invokevirtual 66, 3) := by decide +kernel
theorem dX2_gather_53 : decode cX2_gather 53 = .ok (.iinc 3 1, 3) := by decide +kernel
theorem dX2_gather_56 : decode cX2_gather 56 = .ok (.goto (-44), 3) := by decide +kernel
theorem dX2_gather_59 : decode cX2_gather 59 = .ok (.return_, 1) := by decide +kernel
theorem dX2_isReached_0 : decode cX2_isReached 0 = .ok (.iload_n 1, 1) := by decide +kernel
theorem dX2_isReached_1 : decode cX2_isReached 1 = .ok (.sipush 1000, 3) := by decide +kernel
theorem dX2_isReached_4 : decode cX2_isReached 4 = .ok (.invokestatic 70, 3) := by decide +kernel
theorem dX2_isReached_7 : decode cX2_isReached 7 = .ok (.ifCond .eq 30, 3) := by decide +kernel
theorem dX2_isReached_10 : decode cX2_isReached 10 = .ok (.aload_n 0, 1) := by decide +kernel
theorem dX2_isReached_11 : decode cX2_isReached 11 = .ok (.getfield 13, 3) := by decide +kernel
theorem dX2_isReached_14 : decode cX2_isReached 14 = .ok (.iconst 0, 1) := by decide +kernel
theorem dX2_isReached_15 : decode cX2_isReached 15 = .ok (.aaload, 1) := by decide +kernel
theorem dX2_isReached_16 : decode cX2_isReached 16 = .ok (.iload_n 1, 1) := by decide +kernel
theorem dX2_isReached_17 : decode cX2_isReached 17 = .ok (.bipush 6, 2) := by decide +kernel
theorem dX2_isReached_19 : decode cX2_isReached 19 = .ok (.ishr, 1) := by decide +kernel
theorem dX2_isReached_20 : decode cX2_isReached 20 = .ok (.laload, 1) := by decide +kernel
theorem dX2_isReached_21 : decode cX2_isReached 21 = .ok (.iload_n 1, 1) := by decide +kernel
theorem dX2_isReached_22 : decode cX2_isReached 22 = .ok (.bipush 63, 2) := by decide +kernel
theorem dX2_isReached_24 : decode cX2_isReached 24 = .ok (.iand, 1) := by decide +kernel
theorem dX2_isReached_25 : decode cX2_isReached 25 = .ok (.lshr, 1) := by decide +kernel
theorem dX2_isReached_26 : decode cX2_isReached 26 = .ok (.lconst 1, 1) := by decide +kernel
theorem dX2_isReached_27 : decode cX2_isReached 27 = .ok (.land, 1) := by decide +kernel
theorem dX2_isReached_28 : decode cX2_isReached 28 = .ok (.lconst 0, 1) := by decide +kernel
theorem dX2_isReached_29 : decode cX2_isReached 29 = .ok (.lcmp, 1) := by decide +kernel
theorem dX2_isReached_30 : decode cX2_isReached 30 = .ok (.ifCond .eq 7, 3) := by decide +kernel
theorem dX2_isReached_33 : decode cX2_isReached 33 = .ok (.iconst 1, 1) := by decide +kernel
theorem dX2_isReached_34 : decode cX2_isReached 34 = .ok (.goto 4, 3) := by decide +kernel
theorem dX2_isReached_37 : decode cX2_isReached 37 = .ok (.iconst 0, 1) := by decide +kernel
theorem dX2_isReached_38 : decode cX2_isReached 38 = .ok (.ireturn, 1) := by decide +kernel
theorem dX2_reachedCount_0 : decode cX2_reachedCount 0 = .ok (.iconst 0, 1) := by decide +kernel
theorem dX2_reachedCount_1 : decode cX2_reachedCount 1 = .ok (.istore_n 1, 1) := by decide +kernel
theorem dX2_reachedCount_2 : decode cX2_reachedCount 2 = .ok (.iconst 0, 1) := by decide +kernel
theorem dX2_reachedCount_3 : decode cX2_reachedCount 3 = .ok (.istore_n 2, 1) := by decide +kernel
theorem dX2_reachedCount_4 : decode cX2_reachedCount 4 = .ok (.iload_n 2, 1) := by decide +kernel
theorem dX2_reachedCount_5 : decode cX2_reachedCount 5 = .ok (.bipush 16, 2) := by decide +kernel
theorem dX2_reachedCount_7 : decode cX2_reachedCount 7 = .ok (.if_icmp .ge 23, 3) := by decide +kernel
theorem dX2_reachedCount_10 : decode cX2_reachedCount 10 = .ok (.iload_n 1, 1) := by decide +kernel
theorem dX2_reachedCount_11 : decode cX2_reachedCount 11 = .ok (.aload_n 0, 1) := by decide +kernel
theorem dX2_reachedCount_12 : decode cX2_reachedCount 12 = .ok (.getfield 13, 3) := by decide +kernel
theorem dX2_reachedCount_15 : decode cX2_reachedCount 15 = .ok (.iconst 0, 1) := by decide +kernel
theorem dX2_reachedCount_16 : decode cX2_reachedCount 16 = .ok (.aaload, 1) := by decide +kernel
theorem dX2_reachedCount_17 : decode cX2_reachedCount 17 = .ok (.iload_n 2, 1) := by decide +kernel
theorem dX2_reachedCount_18 : decode cX2_reachedCount 18 = .ok (.laload, 1) := by decide +kernel
theorem dX2_reachedCount_19 : decode cX2_reachedCount 19 = .ok (.invokestatic 73, 3) := by decide +kernel
theorem dX2_reachedCount_22 : decode cX2_reachedCount 22 = .ok (.iadd, 1) := by decide +kernel
theorem dX2_reachedCount_23 : decode cX2_reachedCount 23 = .ok (.istore_n 1, 1) := by decide +kernel
theorem dX2_reachedCount_24 : decode cX2_reachedCount 24 = .ok (.iinc 2 1, 3) := by decide +kernel
theorem dX2_reachedCount_27 : decode cX2_reachedCount 27 = .ok (.goto (-23), 3) := by decide +kernel
theorem dX2_reachedCount_30 : decode cX2_reachedCount 30 = .ok (.iload_n 1, 1) := by decide +kernel
theorem dX2_reachedCount_31 : decode cX2_reachedCount 31 = .ok (.ireturn, 1) := by decide +kernel
theorem dX2_firstUnreached_0 : decode cX2_firstUnreached 0 = .ok (.iload_n 1, 1) := by decide +kernel
theorem dX2_firstUnreached_1 : decode cX2_firstUnreached 1 = .ok (.istore_n 2, 1) := by decide +kernel
theorem dX2_firstUnreached_2 : decode cX2_firstUnreached 2 = .ok (.iload_n 2, 1) := by decide +kernel
theorem dX2_firstUnreached_3 : decode cX2_firstUnreached 3 = .ok (.sipush 1000, 3) := by decide +kernel
theorem dX2_firstUnreached_6 : decode cX2_firstUnreached 6 = .ok (.if_icmp .gt 17, 3) := by decide +kernel
theorem dX2_firstUnreached_9 : decode cX2_firstUnreached 9 = .ok (.aload_n 0, 1) := by decide +kernel
theorem dX2_firstUnreached_10 : decode cX2_firstUnreached 10 = .ok (.iload_n 2, 1) := by decide +kernel
theorem dX2_firstUnreached_11 : decode cX2_firstUnreached 11 = .ok (.invokevirtual 79, 3) := by decide +kernel
theorem dX2_firstUnreached_14 : decode cX2_firstUnreached 14 = .ok (.ifCond .eq 9, 3) := by decide +kernel
theorem dX2_firstUnreached_17 : decode cX2_firstUnreached 17 = .ok (.iinc 2 1, 3) := by decide +kernel
theorem dX2_firstUnreached_20 : decode cX2_firstUnreached 20 = .ok (.goto (-18), 3) := by decide +kernel
theorem dX2_firstUnreached_23 : decode cX2_firstUnreached 23 = .ok (.iload_n 2, 1) := by decide +kernel
theorem dX2_firstUnreached_24 : decode cX2_firstUnreached 24 = .ok (.ireturn, 1) := by decide +kernel
theorem dX2_wantNothing_0 : decode cX2_wantNothing 0 = .ok (.aload_n 0, 1) := by decide +kernel
theorem dX2_wantNothing_1 : decode cX2_wantNothing 1 = .ok (.getfield 16, 3) := by decide +kernel
theorem dX2_wantNothing_4 : decode cX2_wantNothing 4 = .ok (.lconst 0, 1) := by decide +kernel
theorem dX2_wantNothing_5 : decode cX2_wantNothing 5 = .ok (.invokestatic 83, 3) := by decide +kernel
theorem dX2_wantNothing_8 : decode cX2_wantNothing 8 = .ok (.aload_n 0, 1) := by decide +kernel
theorem dX2_wantNothing_9 : decode cX2_wantNothing 9 = .ok (.iconst 1, 1) := by decide +kernel
theorem dX2_wantNothing_10 : decode cX2_wantNothing 10 = .ok (.putfield 20, 3) := by decide +kernel
theorem dX2_wantNothing_13 : decode cX2_wantNothing 13 = .ok (.aload_n 0, 1) := by decide +kernel
theorem dX2_wantNothing_14 : decode cX2_wantNothing 14 = .ok (.iconst 1, 1) := by decide +kernel
theorem dX2_wantNothing_15 : decode cX2_wantNothing 15 = .ok (.putfield 24, 3) := by decide +kernel
theorem dX2_wantNothing_18 : decode cX2_wantNothing 18 = .ok (.return_, 1) := by decide +kernel
theorem dX2_want_0 : decode cX2_want 0 = .ok (.iload_n 1, 1) := by decide +kernel
theorem dX2_want_1 : decode cX2_want 1 = .ok (.sipush 1000, 3) := by decide +kernel
theorem dX2_want_4 : decode cX2_want 4 = .ok (.invokestatic 70, 3) := by decide +kernel
theorem dX2_want_7 : decode cX2_want 7 = .ok (.ifCond .ne 9, 3) := by decide +kernel
theorem dX2_want_10 : decode cX2_want 10 = .ok (.aload_n 0, 1) := by decide +kernel
theorem dX2_want_11 : decode cX2_want 11 = .ok (.iconst 0, 1) := by decide +kernel
theorem dX2_want_12 : decode cX2_want 12 = .ok (.putfield 20, 3) := by decide +kernel
theorem dX2_want_15 : decode cX2_want 15 = .ok (.return_, 1) := by decide +kernel
theorem dX2_want_16 : decode cX2_want 16 = .ok (.aload_n 0, 1) := by decide +kernel
theorem dX2_want_17 : decode cX2_want 17 = .ok (.getfield 16, 3) := by decide +kernel
theorem dX2_want_20 : decode cX2_want 20 = .ok (.iload_n 1, 1) := by decide +kernel
theorem dX2_want_21 : decode cX2_want 21 = .ok (.bipush 6, 2) := by decide +kernel
theorem dX2_want_23 : decode cX2_want 23 = .ok (.ishr, 1) := by decide +kernel
theorem dX2_want_24 : decode cX2_want 24 = .ok (.dup2, 1) := by decide +kernel
theorem dX2_want_25 : decode cX2_want 25 = .ok (.laload, 1) := by decide +kernel
theorem dX2_want_26 : decode cX2_want 26 = .ok (.lconst 1, 1) := by decide +kernel
theorem dX2_want_27 : decode cX2_want 27 = .ok (.iload_n 1, 1) := by decide +kernel
theorem dX2_want_28 : decode cX2_want 28 = .ok (.bipush 63, 2) := by decide +kernel
theorem dX2_want_30 : decode cX2_want 30 = .ok (.iand, 1) := by decide +kernel
theorem dX2_want_31 : decode cX2_want 31 = .ok (.lshl, 1) := by decide +kernel
theorem dX2_want_32 : decode cX2_want 32 = .ok (.lor, 1) := by decide +kernel
theorem dX2_want_33 : decode cX2_want 33 = .ok (.lastore, 1) := by decide +kernel
theorem dX2_want_34 : decode cX2_want 34 = .ok (.aload_n 0, 1) := by decide +kernel
theorem dX2_want_35 : decode cX2_want 35 = .ok (.aload_n 0, 1) := by decide +kernel
theorem dX2_want_36 : decode cX2_want 36 = .ok (.getfield 24, 3) := by decide +kernel
theorem dX2_want_39 : decode cX2_want 39 = .ok (.iload_n 1, 1) := by decide +kernel
theorem dX2_want_40 : decode cX2_want 40 = .ok (.bipush 6, 2) := by decide +kernel
theorem dX2_want_42 : decode cX2_want 42 = .ok (.ishr, 1) := by decide +kernel
theorem dX2_want_43 : decode cX2_want 43 = .ok (.iconst 1, 1) := by decide +kernel
theorem dX2_want_44 : decode cX2_want 44 = .ok (.iadd, 1) := by decide +kernel
theorem dX2_want_45 : decode cX2_want 45 = .ok (.invokestatic 89, 3) := by decide +kernel
theorem dX2_want_48 : decode cX2_want 48 = .ok (.putfield 24, 3) := by decide +kernel
theorem dX2_want_51 : decode cX2_want 51 = .ok (.return_, 1) := by decide +kernel
theorem dX2_fewestFlips_0 : decode cX2_fewestFlips 0 = .ok (.aload_n 0, 1) := by decide +kernel
theorem dX2_fewestFlips_1 : decode cX2_fewestFlips 1 = .ok (.getfield 20, 3) := by decide +kernel
theorem dX2_fewestFlips_4 : decode cX2_fewestFlips 4 = .ok (.ifCond .ne 5, 3) := by decide +kernel
theorem dX2_fewestFlips_7 : decode cX2_fewestFlips 7 = .ok (.iconst (-1), 1) := by decide +kernel
theorem dX2_fewestFlips_8 : decode cX2_fewestFlips 8 = .ok (.ireturn, 1) := by decide +kernel
theorem dX2_fewestFlips_9 : decode cX2_fewestFlips 9 = .ok (.aload_n 0, 1) := by decide +kernel
theorem dX2_fewestFlips_10 : decode cX2_fewestFlips 10 = .ok (.iconst 0, 1) := by decide +kernel
theorem dX2_fewestFlips_11 : decode cX2_fewestFlips 11 = .ok (.putfield 38, 3) := by decide +kernel
theorem dX2_fewestFlips_14 : decode cX2_fewestFlips 14 = .ok (.iconst 0, 1) := by decide +kernel
theorem dX2_fewestFlips_15 : decode cX2_fewestFlips 15 = .ok (.istore_n 3, 1) := by decide +kernel
theorem dX2_fewestFlips_16 : decode cX2_fewestFlips 16 = .ok (.iload_n 3, 1) := by decide +kernel
theorem dX2_fewestFlips_17 : decode cX2_fewestFlips 17 = .ok (.aload_n 1, 1) := by decide +kernel
theorem dX2_fewestFlips_18 : decode cX2_fewestFlips 18 = .ok (.getfield 47, 3) := by decide +kernel
theorem dX2_fewestFlips_21 : decode cX2_fewestFlips 21 = .ok (.if_icmp .ge 73, 3) := by decide +kernel
theorem dX2_fewestFlips_24 : decode cX2_fewestFlips 24 = .ok (.iload_n 2, 1) := by decide +kernel
theorem dX2_fewestFlips_25 : decode cX2_fewestFlips 25 = .ok (.iload_n 3, 1) := by decide +kernel
theorem dX2_fewestFlips_26 : decode cX2_fewestFlips 26 = .ok (.invokestatic 52, 3) := by decide +kernel
theorem dX2_fewestFlips_29 : decode cX2_fewestFlips 29 = .ok (.ifCond .eq 59, 3) := by decide +kernel
theorem dX2_fewestFlips_32 : decode cX2_fewestFlips 32 = .ok (.aload_n 0, 1) := by decide +kernel
theorem dX2_fewestFlips_33 : decode cX2_fewestFlips 33 = .ok (.getfield 28, 3) := by decide +kernel
theorem dX2_fewestFlips_36 : decode cX2_fewestFlips 36 = .ok (.aload_n 0, 1) := by decide +kernel
theorem dX2_fewestFlips_37 : decode cX2_fewestFlips 37 = .ok (.getfield 38, 3) := by decide +kernel
theorem dX2_fewestFlips_40 : decode cX2_fewestFlips 40 = .ok (.iload_n 3, 1) := by decide +kernel
theorem dX2_fewestFlips_41 : decode cX2_fewestFlips 41 = .ok (.iastore, 1) := by decide +kernel
theorem dX2_fewestFlips_42 : decode cX2_fewestFlips 42 = .ok (.aload_n 0, 1) := by decide +kernel
theorem dX2_fewestFlips_43 : decode cX2_fewestFlips 43 = .ok (.getfield 32, 3) := by decide +kernel
theorem dX2_fewestFlips_46 : decode cX2_fewestFlips 46 = .ok (.aload_n 0, 1) := by decide +kernel
theorem dX2_fewestFlips_47 : decode cX2_fewestFlips 47 = .ok (.getfield 38, 3) := by decide +kernel
theorem dX2_fewestFlips_50 : decode cX2_fewestFlips 50 = .ok (.aload_n 1, 1) := by decide +kernel
theorem dX2_fewestFlips_51 : decode cX2_fewestFlips 51 = .ok (.getfield 56, 3) := by decide +kernel
theorem dX2_fewestFlips_54 : decode cX2_fewestFlips 54 = .ok (.iload_n 3, 1) := by decide +kernel
theorem dX2_fewestFlips_55 : decode cX2_fewestFlips 55 = .ok (.aaload, 1) := by decide +kernel
theorem dX2_fewestFlips_56 : decode cX2_fewestFlips 56 = .ok (.invokevirtual 60, 3) := by decide +kernel
theorem dX2_fewestFlips_59 : decode cX2_fewestFlips 59 = .ok (.iastore, 1) := by decide +kernel
theorem dX2_fewestFlips_60 : decode cX2_fewestFlips 60 = .ok (.aload_n 0, 1) := by decide +kernel
theorem dX2_fewestFlips_61 : decode cX2_fewestFlips 61 = .ok (.getfield 35, 3) := by decide +kernel
theorem dX2_fewestFlips_64 : decode cX2_fewestFlips 64 = .ok (.aload_n 0, 1) := by decide +kernel
theorem dX2_fewestFlips_65 : decode cX2_fewestFlips 65 = .ok (.getfield 38, 3) := by decide +kernel
theorem dX2_fewestFlips_68 : decode cX2_fewestFlips 68 = .ok (.aload_n 1, 1) := by decide +kernel
theorem dX2_fewestFlips_69 : decode cX2_fewestFlips 69 = .ok (.getfield 56, 3) := by decide +kernel
theorem dX2_fewestFlips_72 : decode cX2_fewestFlips 72 = .ok (.iload_n 3, 1) := by decide +kernel
theorem dX2_fewestFlips_73 : decode cX2_fewestFlips 73 = .ok (.aaload, 1) := by decide +kernel
theorem dX2_fewestFlips_74 : decode cX2_fewestFlips 74 = .ok (.invokevirtual 95, 3) := by decide +kernel
theorem dX2_fewestFlips_77 : decode cX2_fewestFlips 77 = .ok (.iastore, 1) := by decide +kernel
theorem dX2_fewestFlips_78 : decode cX2_fewestFlips 78 = .ok (.aload_n 0, 1) := by decide +kernel
theorem dX2_fewestFlips_79 : decode cX2_fewestFlips 79 = .ok (.dup, 1) := by decide +kernel
theorem dX2_fewestFlips_80 : decode cX2_fewestFlips 80 = .ok (.getfield 38, 3) := by decide +kernel
theorem dX2_fewestFlips_83 : decode cX2_fewestFlips 83 = .ok (.iconst 1, 1) := by decide +kernel
theorem dX2_fewestFlips_84 : decode cX2_fewestFlips 84 = .ok (.iadd, 1) := by decide +kernel
theorem dX2_fewestFlips_85 : decode cX2_fewestFlips 85 = .ok (.putfield 38, 3) := by decide +kernel
theorem dX2_fewestFlips_88 : decode cX2_fewestFlips 88 = .ok (.iinc 3 1, 3) := by decide +kernel
theorem dX2_fewestFlips_91 : decode cX2_fewestFlips 91 = .ok (.goto (-75), 3) := by decide +kernel
theorem dX2_fewestFlips_94 : decode cX2_fewestFlips 94 = .ok (.aload_n 0, 1) := by decide +kernel
theorem dX2_fewestFlips_95 : decode cX2_fewestFlips 95 = .ok (.invokevirtual 44, 3) := by decide +kernel
theorem dX2_fewestFlips_98 : decode cX2_fewestFlips 98 = .ok (.aload_n 0, 1) := by decide +kernel
theorem dX2_fewestFlips_99 : decode cX2_fewestFlips 99 = .ok (.sipush 11264, 3) := by decide +kernel
theorem dX2_fewestFlips_102 : decode cX2_fewestFlips 102 = .ok (.putfield 41, 3) := by decide +kernel
theorem dX2_fewestFlips_105 : decode cX2_fewestFlips 105 = .ok (.aload_n 0, 1) := by decide +kernel
theorem dX2_fewestFlips_106 : decode cX2_fewestFlips 106 = .ok (.iconst 0, 1) := by decide +kernel
theorem dX2_fewestFlips_107 : decode cX2_fewestFlips 107 = .ok (.iconst 0, 1) := by decide +kernel
theorem dX2_fewestFlips_108 : decode cX2_fewestFlips 108 = .ok (.invokestatic 98, 3) := by decide +kernel
theorem dX2_fewestFlips_111 : decode cX2_fewestFlips 111 = .ok (.aload_n 0, 1) := by decide +kernel
theorem dX2_fewestFlips_112 : decode cX2_fewestFlips 112 = .ok (.getfield 41, 3) := by decide +kernel
theorem dX2_fewestFlips_115 : decode cX2_fewestFlips 115 = .ok (.sipush 11264, 3) := by decide +kernel
theorem dX2_fewestFlips_118 : decode cX2_fewestFlips 118 = .ok (.if_icmp .ne 7, 3) := by decide +kernel
theorem dX2_fewestFlips_121 : decode cX2_fewestFlips 121 = .ok (.iconst (-1), 1) := by decide +kernel
theorem dX2_fewestFlips_122 : decode cX2_fewestFlips 122 = .ok (.goto 11, 3) := by decide +kernel
theorem dX2_fewestFlips_125 : decode cX2_fewestFlips 125 = .ok (.aload_n 0, 1) := by decide +kernel
theorem dX2_fewestFlips_126 : decode cX2_fewestFlips 126 = .ok (.getfield 41, 3) := by decide +kernel
theorem dX2_fewestFlips_129 : decode cX2_fewestFlips 129 = .ok (.sipush 1024, 3) := by decide +kernel
theorem dX2_fewestFlips_132 : decode cX2_fewestFlips 132 = .ok (.irem, 1) := by decide +kernel
theorem dX2_fewestFlips_133 : decode cX2_fewestFlips 133 = .ok (.ireturn, 1) := by decide +kernel
theorem dX2_tryFlips_0 : decode cX2_tryFlips 0 = .ok (.iload_n 2, 1) := by decide +kernel
theorem dX2_tryFlips_1 : decode cX2_tryFlips 1 = .ok (.aload_n 0, 1) := by decide +kernel
theorem dX2_tryFlips_2 : decode cX2_tryFlips 2 = .ok (.getfield 41, 3) := by decide +kernel
theorem dX2_tryFlips_5 : decode cX2_tryFlips 5 = .ok (.if_icmp .lt 4, 3) := by decide +kernel
theorem dX2_tryFlips_8 : decode cX2_tryFlips 8 = .ok (.return_, 1) := by decide +kernel
theorem dX2_tryFlips_9 : decode cX2_tryFlips 9 = .ok (.iload_n 1, 1) := by decide +kernel
theorem dX2_tryFlips_10 : decode cX2_tryFlips 10 = .ok (.aload_n 0, 1) := by decide +kernel
theorem dX2_tryFlips_11 : decode cX2_tryFlips 11 = .ok (.getfield 38, 3) := by decide +kernel
theorem dX2_tryFlips_14 : decode cX2_tryFlips 14 = .ok (.if_icmp .ge 9, 3) := by decide +kernel
theorem dX2_tryFlips_17 : decode cX2_tryFlips 17 = .ok (.iload_n 1, 1) := by decide +kernel
theorem dX2_tryFlips_18 : decode cX2_tryFlips 18 = .ok (.bipush 10, 2) := by decide +kernel
theorem dX2_tryFlips_20 : decode cX2_tryFlips 20 = .ok (.if_icmp .lt 22, 3) := by decide +kernel
theorem dX2_tryFlips_23 : decode cX2_tryFlips 23 = .ok (.aload_n 0, 1) := by decide +kernel
theorem dX2_tryFlips_24 : decode cX2_tryFlips 24 = .ok (.aload_n 0, 1) := by decide +kernel
theorem dX2_tryFlips_25 : decode cX2_tryFlips 25 = .ok (.getfield 13, 3) := by decide +kernel
theorem dX2_tryFlips_28 : decode cX2_tryFlips 28 = .ok (.iload_n 1, 1) := by decide +kernel
theorem dX2_tryFlips_29 : decode cX2_tryFlips 29 = .ok (.aaload, 1) := by decide +kernel
theorem dX2_tryFlips_30 : decode cX2_tryFlips 30 = .ok (.invokevirtual 102, 3) := by decide +kernel
theorem dX2_tryFlips_33 : decode cX2_tryFlips 33 = .ok (.ifCond .eq 8, 3) := by decide +kernel
theorem dX2_tryFlips_36 : decode cX2_tryFlips 36 = .ok (.aload_n 0, 1) := by decide +kernel
theorem dX2_tryFlips_37 : decode cX2_tryFlips 37 = .ok (.iload_n 2, 1) := by decide +kernel
theorem dX2_tryFlips_38 : decode cX2_tryFlips 38 = .ok (.putfield 41, 3) := by decide +kernel
theorem dX2_tryFlips_41 : decode cX2_tryFlips 41 = .ok (.return_, 1) := by decide +kernel
theorem dX2_tryFlips_42 : decode cX2_tryFlips 42 = .ok (.aload_n 0, 1) := by decide +kernel
theorem dX2_tryFlips_43 : decode cX2_tryFlips 43 = .ok (.aload_n 0, 1) := by decide +kernel
theorem dX2_tryFlips_44 : decode cX2_tryFlips 44 = .ok (.getfield 13, 3) := by decide +kernel
theorem dX2_tryFlips_47 : decode cX2_tryFlips 47 = .ok (.iload_n 1, 1) := by decide +kernel
theorem dX2_tryFlips_48 : decode cX2_tryFlips 48 = .ok (.aaload, 1) := by decide +kernel
theorem dX2_tryFlips_49 : decode cX2_tryFlips 49 = .ok (.aload_n 0, 1) := by decide +kernel
theorem dX2_tryFlips_50 : decode cX2_tryFlips 50 = .ok (.getfield 13, 3) := by decide +kernel
theorem dX2_tryFlips_53 : decode cX2_tryFlips 53 = .ok (.iload_n 1, 1) := by decide +kernel
theorem dX2_tryFlips_54 : decode cX2_tryFlips 54 = .ok (.iconst 1, 1) := by decide +kernel
theorem dX2_tryFlips_55 : decode cX2_tryFlips 55 = .ok (.iadd, 1) := by decide +kernel
theorem dX2_tryFlips_56 : decode cX2_tryFlips 56 = .ok (.aaload, 1) := by decide +kernel
theorem dX2_tryFlips_57 : decode cX2_tryFlips 57 = .ok (.aload_n 0, 1) := by decide +kernel
theorem dX2_tryFlips_58 : decode cX2_tryFlips 58 = .ok (.getfield 32, 3) := by decide +kernel
theorem dX2_tryFlips_61 : decode cX2_tryFlips 61 = .ok (.iload_n 1, 1) := by decide +kernel
theorem dX2_tryFlips_62 : decode cX2_tryFlips 62 = .ok (.iaload, 1) := by decide +kernel
theorem dX2_tryFlips_63 : decode cX2_tryFlips 63 = .ok (.invokevirtual 66, 3) := by decide +kernel
theorem dX2_tryFlips_66 : decode cX2_tryFlips 66 = .ok (.aload_n 0, 1) := by decide +kernel
theorem dX2_tryFlips_67 : decode cX2_tryFlips 67 = .ok (.iload_n 1, 1) := by decide +kernel
theorem dX2_tryFlips_68 : decode cX2_tryFlips 68 = .ok (.iconst 1, 1) := by decide +kernel
theorem dX2_tryFlips_69 : decode cX2_tryFlips 69 = .ok (.iadd, 1) := by decide +kernel
theorem dX2_tryFlips_70 : decode cX2_tryFlips 70 = .ok (.iload_n 2, 1) := by decide +kernel
theorem dX2_tryFlips_71 : decode cX2_tryFlips 71 = .ok (.invokestatic 98, 3) := by decide +kernel
theorem dX2_tryFlips_74 : decode cX2_tryFlips 74 = .ok (.aload_n 0, 1) := by decide +kernel
theorem dX2_tryFlips_75 : decode cX2_tryFlips 75 = .ok (.getfield 35, 3) := by decide +kernel
theorem dX2_tryFlips_78 : decode cX2_tryFlips 78 = .ok (.iload_n 1, 1) := by decide +kernel
theorem dX2_tryFlips_79 : decode cX2_tryFlips 79 = .ok (.iaload, 1) := by decide +kernel
theorem dX2_tryFlips_80 : decode cX2_tryFlips 80 = .ok (.aload_n 0, 1) := by decide +kernel
theorem dX2_tryFlips_81 : decode cX2_tryFlips 81 = .ok (.getfield 32, 3) := by decide +kernel
theorem dX2_tryFlips_84 : decode cX2_tryFlips 84 = .ok (.iload_n 1, 1) := by decide +kernel
theorem dX2_tryFlips_85 : decode cX2_tryFlips 85 = .ok (.iaload, 1) := by decide +kernel
theorem dX2_tryFlips_86 : decode cX2_tryFlips 86 = .ok (.if_icmp .eq 48, 3) := by decide +kernel
theorem dX2_tryFlips_89 : decode cX2_tryFlips 89 = .ok (.aload_n 0, 1) := by decide +kernel
theorem dX2_tryFlips_90 : decode cX2_tryFlips 90 = .ok (.aload_n 0, 1) := by decide +kernel
theorem dX2_tryFlips_91 : decode cX2_tryFlips 91 = .ok (.getfield 13, 3) := by decide +kernel
theorem dX2_tryFlips_94 : decode cX2_tryFlips 94 = .ok (.iload_n 1, 1) := by decide +kernel
theorem dX2_tryFlips_95 : decode cX2_tryFlips 95 = .ok (.aaload, 1) := by decide +kernel
theorem dX2_tryFlips_96 : decode cX2_tryFlips 96 = .ok (.aload_n 0, 1) := by decide +kernel
theorem dX2_tryFlips_97 : decode cX2_tryFlips 97 = .ok (.getfield 13, 3) := by decide +kernel
theorem dX2_tryFlips_100 : decode cX2_tryFlips 100 = .ok (.iload_n 1, 1) := by decide +kernel
theorem dX2_tryFlips_101 : decode cX2_tryFlips 101 = .ok (.iconst 1, 1) := by decide +kernel
theorem dX2_tryFlips_102 : decode cX2_tryFlips 102 = .ok (.iadd, 1) := by decide +kernel
theorem dX2_tryFlips_103 : decode cX2_tryFlips 103 = .ok (.aaload, 1) := by decide +kernel
theorem dX2_tryFlips_104 : decode cX2_tryFlips 104 = .ok (.aload_n 0, 1) := by decide +kernel
theorem dX2_tryFlips_105 : decode cX2_tryFlips 105 = .ok (.getfield 35, 3) := by decide +kernel
theorem dX2_tryFlips_108 : decode cX2_tryFlips 108 = .ok (.iload_n 1, 1) := by decide +kernel
theorem dX2_tryFlips_109 : decode cX2_tryFlips 109 = .ok (.iaload, 1) := by decide +kernel
theorem dX2_tryFlips_110 : decode cX2_tryFlips 110 = .ok (.invokevirtual 66, 3) := by decide +kernel
theorem dX2_tryFlips_113 : decode cX2_tryFlips 113 = .ok (.aload_n 0, 1) := by decide +kernel
theorem dX2_tryFlips_114 : decode cX2_tryFlips 114 = .ok (.iload_n 1, 1) := by decide +kernel
theorem dX2_tryFlips_115 : decode cX2_tryFlips 115 = .ok (.iconst 1, 1) := by decide +kernel
theorem dX2_tryFlips_116 : decode cX2_tryFlips 116 = .ok (.iadd, 1) := by decide +kernel
theorem dX2_tryFlips_117 : decode cX2_tryFlips 117 = .ok (.iload_n 2, 1) := by decide +kernel
theorem dX2_tryFlips_118 : decode cX2_tryFlips 118 = .ok (.sipush 1024, 3) := by decide +kernel
theorem dX2_tryFlips_121 : decode cX2_tryFlips 121 = .ok (.iadd, 1) := by decide +kernel
theorem dX2_tryFlips_122 : decode cX2_tryFlips 122 = .ok (.iconst 1, 1) := by decide +kernel
theorem dX2_tryFlips_123 : decode cX2_tryFlips 123 = .ok (.aload_n 0, 1) := by decide +kernel
theorem dX2_tryFlips_124 : decode cX2_tryFlips 124 = .ok (.getfield 28, 3) := by decide +kernel
theorem dX2_tryFlips_127 : decode cX2_tryFlips 127 = .ok (.iload_n 1, 1) := by decide +kernel
theorem dX2_tryFlips_128 : decode cX2_tryFlips 128 = .ok (.iaload, 1) := by decide +kernel
theorem dX2_tryFlips_129 : decode cX2_tryFlips 129 = .ok (.ishl, 1) := by decide +kernel
theorem dX2_tryFlips_130 : decode cX2_tryFlips 130 = .ok (.iadd, 1) := by decide +kernel
theorem dX2_tryFlips_131 : decode cX2_tryFlips 131 = .ok (.invokestatic 98, 3) := by decide +kernel
theorem dX2_tryFlips_134 : decode cX2_tryFlips 134 = .ok (.return_, 1) := by decide +kernel
theorem dX2_hasAllWanted_0 : decode cX2_hasAllWanted 0 = .ok (.iconst 0, 1) := by decide +kernel
theorem dX2_hasAllWanted_1 : decode cX2_hasAllWanted 1 = .ok (.istore_n 2, 1) := by decide +kernel
theorem dX2_hasAllWanted_2 : decode cX2_hasAllWanted 2 = .ok (.iload_n 2, 1) := by decide +kernel
theorem dX2_hasAllWanted_3 : decode cX2_hasAllWanted 3 = .ok (.aload_n 0, 1) := by decide +kernel
theorem dX2_hasAllWanted_4 : decode cX2_hasAllWanted 4 = .ok (.getfield 24, 3) := by decide +kernel
theorem dX2_hasAllWanted_7 : decode cX2_hasAllWanted 7 = .ok (.if_icmp .ge 30, 3) := by decide +kernel
theorem dX2_hasAllWanted_10 : decode cX2_hasAllWanted 10 = .ok (.aload_n 0, 1) := by decide +kernel
theorem dX2_hasAllWanted_11 : decode cX2_hasAllWanted 11 = .ok (.getfield 16, 3) := by decide +kernel
theorem dX2_hasAllWanted_14 : decode cX2_hasAllWanted 14 = .ok (.iload_n 2, 1) := by decide +kernel
theorem dX2_hasAllWanted_15 : decode cX2_hasAllWanted 15 = .ok (.laload, 1) := by decide +kernel
theorem dX2_hasAllWanted_16 : decode cX2_hasAllWanted 16 = .ok (.aload_n 1, 1) := by decide +kernel
theorem dX2_hasAllWanted_17 : decode cX2_hasAllWanted 17 = .ok (.iload_n 2, 1) := by decide +kernel
theorem dX2_hasAllWanted_18 : decode cX2_hasAllWanted 18 = .ok (.laload, 1) := by decide +kernel
theorem dX2_hasAllWanted_19 : decode cX2_hasAllWanted 19 = .ok (.ldc2_w 106, 3) := by decide +kernel
theorem dX2_hasAllWanted_22 : decode cX2_hasAllWanted 22 = .ok (.lxor, 1) := by decide +kernel
theorem dX2_hasAllWanted_23 : decode cX2_hasAllWanted 23 = .ok (.land, 1) := by decide +kernel
theorem dX2_hasAllWanted_24 : decode cX2_hasAllWanted 24 = .ok (.lconst 0, 1) := by decide +kernel
theorem dX2_hasAllWanted_25 : decode cX2_hasAllWanted 25 = .ok (.lcmp, 1) := by decide +kernel
theorem dX2_hasAllWanted_26 : decode cX2_hasAllWanted 26 = .ok (.ifCond .eq 5, 3) := by decide +kernel
theorem dX2_hasAllWanted_29 : decode cX2_hasAllWanted 29 = .ok (.iconst 0, 1) := by decide +kernel
theorem dX2_hasAllWanted_30 : decode cX2_hasAllWanted 30 = .ok (.ireturn, 1) := by decide +kernel
theorem dX2_hasAllWanted_31 : decode cX2_hasAllWanted 31 = .ok (.iinc 2 1, 3) := by decide +kernel
theorem dX2_hasAllWanted_34 : decode cX2_hasAllWanted 34 = .ok (.goto (-32), 3) := by decide +kernel
theorem dX2_hasAllWanted_37 : decode cX2_hasAllWanted 37 = .ok (.iconst 1, 1) := by decide +kernel
theorem dX2_hasAllWanted_38 : decode cX2_hasAllWanted 38 = .ok (.ireturn, 1) := by decide +kernel
theorem dX2_startRow_0 : decode cX2_startRow 0 = .ok (.aload_n 0, 1) := by decide +kernel
theorem dX2_startRow_1 : decode cX2_startRow 1 = .ok (.getfield 13, 3) := by decide +kernel
theorem dX2_startRow_4 : decode cX2_startRow 4 = .ok (.iconst 0, 1) := by decide +kernel
theorem dX2_startRow_5 : decode cX2_startRow 5 = .ok (.aaload, 1) := by decide +kernel
theorem dX2_startRow_6 : decode cX2_startRow 6 = .ok (.lconst 0, 1) := by decide +kernel
theorem dX2_startRow_7 : decode cX2_startRow 7 = .ok (.invokestatic 83, 3) := by decide +kernel
theorem dX2_startRow_10 : decode cX2_startRow 10 = .ok (.aload_n 0, 1) := by decide +kernel
theorem dX2_startRow_11 : decode cX2_startRow 11 = .ok (.getfield 13, 3) := by decide +kernel
theorem dX2_startRow_14 : decode cX2_startRow 14 = .ok (.iconst 0, 1) := by decide +kernel
theorem dX2_startRow_15 : decode cX2_startRow 15 = .ok (.aaload, 1) := by decide +kernel
theorem dX2_startRow_16 : decode cX2_startRow 16 = .ok (.iconst 0, 1) := by decide +kernel
theorem dX2_startRow_17 : decode cX2_startRow 17 = .ok (.lconst 1, 1) := by decide +kernel
theorem dX2_startRow_18 : decode cX2_startRow 18 = .ok (.lastore, 1) := by decide +kernel
theorem dX2_startRow_19 : decode cX2_startRow 19 = .ok (.return_, 1) := by decide +kernel
theorem dX2_spread_0 : decode cX2_spread 0 = .ok (.iload_n 3, 1) := by decide +kernel
theorem dX2_spread_1 : decode cX2_spread 1 = .ok (.bipush 6, 2) := by decide +kernel
theorem dX2_spread_3 : decode cX2_spread 3 = .ok (.ishr, 1) := by decide +kernel
theorem dX2_spread_4 : decode cX2_spread 4 = .ok (.istore 4, 2) := by decide +kernel
theorem dX2_spread_6 : decode cX2_spread 6 = .ok (.iload_n 3, 1) := by decide +kernel
theorem dX2_spread_7 : decode cX2_spread 7 = .ok (.bipush 63, 2) := by decide +kernel
theorem dX2_spread_9 : decode cX2_spread 9 = .ok (.iand, 1) := by decide +kernel
theorem dX2_spread_10 : decode cX2_spread 10 = .ok (.istore 5, 2) := by decide +kernel
theorem dX2_spread_12 : decode cX2_spread 12 = .ok (.aload_n 0, 1) := by decide +kernel
theorem dX2_spread_13 : decode cX2_spread 13 = .ok (.getfield 24, 3) := by decide +kernel
theorem dX2_spread_16 : decode cX2_spread 16 = .ok (.iconst 1, 1) := by decide +kernel
theorem dX2_spread_17 : decode cX2_spread 17 = .ok (.isub, 1) := by decide +kernel
theorem dX2_spread_18 : decode cX2_spread 18 = .ok (.istore 6, 2) := by decide +kernel
theorem dX2_spread_20 : decode cX2_spread 20 = .ok (.iload 6, 2) := by decide +kernel
theorem dX2_spread_22 : decode cX2_spread 22 = .ok (.ifCond .lt 72, 3) := by decide +kernel
theorem dX2_spread_25 : decode cX2_spread 25 = .ok (.lconst 0, 1) := by decide +kernel
theorem dX2_spread_26 : decode cX2_spread 26 = .ok (.lstore 7, 2) := by decide +kernel
theorem dX2_spread_28 : decode cX2_spread 28 = .ok (.iload 6, 2) := by decide +kernel
theorem dX2_spread_30 : decode cX2_spread 30 = .ok (.iload 4, 2) := by decide +kernel
theorem dX2_spread_32 : decode cX2_spread 32 = .ok (.isub, 1) := by decide +kernel
theorem dX2_spread_33 : decode cX2_spread 33 = .ok (.istore 9, 2) := by decide +kernel
theorem dX2_spread_35 : decode cX2_spread 35 = .ok (.iload 9, 2) := by decide +kernel
theorem dX2_spread_37 : decode cX2_spread 37 = .ok (.ifCond .lt 12, 3) := by decide +kernel
theorem dX2_spread_40 : decode cX2_spread 40 = .ok (.aload_n 1, 1) := by decide +kernel
theorem dX2_spread_41 : decode cX2_spread 41 = .ok (.iload 9, 2) := by decide +kernel
theorem dX2_spread_43 : decode cX2_spread 43 = .ok (.laload, 1) := by decide +kernel
theorem dX2_spread_44 : decode cX2_spread 44 = .ok (.iload 5, 2) := by decide +kernel
theorem dX2_spread_46 : decode cX2_spread 46 = .ok (.lshl, 1) := by decide +kernel
theorem dX2_spread_47 : decode cX2_spread 47 = .ok (.lstore 7, 2) := by decide +kernel
theorem dX2_spread_49 : decode cX2_spread 49 = .ok (.iload 9, 2) := by decide +kernel
theorem dX2_spread_51 : decode cX2_spread 51 = .ok (.iconst 1, 1) := by decide +kernel
theorem dX2_spread_52 : decode cX2_spread 52 = .ok (.if_icmp .lt 25, 3) := by decide +kernel
theorem dX2_spread_55 : decode cX2_spread 55 = .ok (.iload 5, 2) := by decide +kernel
theorem dX2_spread_57 : decode cX2_spread 57 = .ok (.ifCond .le 20, 3) := by decide +kernel
theorem dX2_spread_60 : decode cX2_spread 60 = .ok (.lload 7, 2) := by decide +kernel
theorem dX2_spread_62 : decode cX2_spread 62 = .ok (.aload_n 1, 1) := by decide +kernel
theorem dX2_spread_63 : decode cX2_spread 63 = .ok (.iload 9, 2) := by decide +kernel
theorem dX2_spread_65 : decode cX2_spread 65 = .ok (.iconst 1, 1) := by decide +kernel
theorem dX2_spread_66 : decode cX2_spread 66 = .ok (.isub, 1) := by decide +kernel
theorem dX2_spread_67 : decode cX2_spread 67 = .ok (.laload, 1) := by decide +kernel
theorem dX2_spread_68 : decode cX2_spread 68 = .ok (.bipush 64, 2) := by decide +kernel
theorem dX2_spread_70 : decode cX2_spread 70 = .ok (.iload 5, 2) := by decide +kernel
theorem dX2_spread_72 : decode cX2_spread 72 = .ok (.isub, 1) := by decide +kernel
theorem dX2_spread_73 : decode cX2_spread 73 = .ok (.lushr, 1) := by decide +kernel
theorem dX2_spread_74 : decode cX2_spread 74 = .ok (.lor, 1) := by decide +kernel
theorem dX2_spread_75 : decode cX2_spread 75 = .ok (.lstore 7, 2) := by decide +kernel
theorem dX2_spread_77 : decode cX2_spread 77 = .ok (.aload_n 2, 1) := by decide +kernel
theorem dX2_spread_78 : decode cX2_spread 78 = .ok (.iload 6, 2) := by decide +kernel
theorem dX2_spread_80 : decode cX2_spread 80 = .ok (.aload_n 1, 1) := by decide +kernel
theorem dX2_spread_81 : decode cX2_spread 81 = .ok (.iload 6, 2) := by decide +kernel
theorem dX2_spread_83 : decode cX2_spread 83 = .ok (.laload, 1) := by decide +kernel
theorem dX2_spread_84 : decode cX2_spread 84 = .ok (.lload 7, 2) := by decide +kernel
theorem dX2_spread_86 : decode cX2_spread 86 = .ok (.lor, 1) := by decide +kernel
theorem dX2_spread_87 : decode cX2_spread 87 = .ok (.lastore, 1) := by decide +kernel
theorem dX2_spread_88 : decode cX2_spread 88 = .ok (.iinc 6 (-1), 3) := by decide +kernel
theorem dX2_spread_91 : decode cX2_spread 91 = .ok (.goto (-71), 3) := by decide +kernel
theorem dX2_spread_94 : decode cX2_spread 94 = .ok (.return_, 1) := by decide +kernel
theorem dX3_init_0 : decode cX3_init 0 = .ok (.aload_n 0, 1) := by decide +kernel
theorem dX3_init_1 : decode cX3_init 1 = .ok (.invokespecial 3, 3) := by decide +kernel
theorem dX3_init_4 : decode cX3_init 4 = .ok (.aload_n 0, 1) := by decide +kernel
theorem dX3_init_5 : decode cX3_init 5 = .ok (.iconst 0, 1) := by decide +kernel
theorem dX3_init_6 : decode cX3_init 6 = .ok (.newarray .int, 2) := by decide +kernel
theorem dX3_init_8 : decode cX3_init 8 = .ok (.putfield 9, 3) := by decide +kernel
theorem dX3_init_11 : decode cX3_init 11 = .ok (.aload_n 0, 1) := by decide +kernel
theorem dX3_init_12 : decode cX3_init 12 = .ok (.iconst 0, 1) := by decide +kernel
theorem dX3_init_13 : decode cX3_init 13 = .ok (.putfield 15, 3) := by decide +kernel
theorem dX3_init_16 : decode cX3_init 16 = .ok (.aload_n 0, 1) := by decide +kernel
theorem dX3_init_17 : decode cX3_init 17 = .ok (.iconst 0, 1) := by decide +kernel
theorem dX3_init_18 : decode cX3_init 18 = .ok (.putfield 19, 3) := by decide +kernel
theorem dX3_init_21 : decode cX3_init 21 = .ok (.aload_n 0, 1) := by decide +kernel
theorem dX3_init_22 : decode cX3_init 22 = .ok (.iconst 0, 1) := by decide +kernel
theorem dX3_init_23 : decode cX3_init 23 = .ok (.putfield 22, 3) := by decide +kernel
theorem dX3_init_26 : decode cX3_init 26 = .ok (.aload_n 0, 1) := by decide +kernel
theorem dX3_init_27 : decode cX3_init 27 = .ok (.iconst 0, 1) := by decide +kernel
theorem dX3_init_28 : decode cX3_init 28 = .ok (.putfield 25, 3) := by decide +kernel
theorem dX3_init_31 : decode cX3_init 31 = .ok (.aload_n 0, 1) := by decide +kernel
theorem dX3_init_32 : decode cX3_init 32 = .ok (.iconst 0, 1) := by decide +kernel
theorem dX3_init_33 : decode cX3_init 33 = .ok (.putfield 28, 3) := by decide +kernel
theorem dX3_init_36 : decode cX3_init 36 = .ok (.return_, 1) := by decide +kernel
theorem dX3_readText_0 : decode cX3_readText 0 = .ok (.aload_n 0, 1) := by decide +kernel
theorem dX3_readText_1 : decode cX3_readText 1 = .ok (.aload_n 1, 1) := by decide +kernel
theorem dX3_readText_2 : decode cX3_readText 2 = .ok (.putfield 9, 3) := by decide +kernel
theorem dX3_readText_5 : decode cX3_readText 5 = .ok (.aload_n 0, 1) := by decide +kernel
theorem dX3_readText_6 : decode cX3_readText 6 = .ok (.iload_n 2, 1) := by decide +kernel
theorem dX3_readText_7 : decode cX3_readText 7 = .ok (.aload_n 1, 1) := by decide +kernel
theorem dX3_readText_8 : decode cX3_readText 8 = .ok (.arraylength, 1) := by decide +kernel
theorem dX3_readText_9 : decode cX3_readText 9 = .ok (.invokestatic 31, 3) := by decide +kernel
theorem dX3_readText_12 : decode cX3_readText 12 = .ok (.putfield 15, 3) := by decide +kernel
theorem dX3_readText_15 : decode cX3_readText 15 = .ok (.aload_n 0, 1) := by decide +kernel
theorem dX3_readText_16 : decode cX3_readText 16 = .ok (.iconst 0, 1) := by decide +kernel
theorem dX3_readText_17 : decode cX3_readText 17 = .ok (.putfield 25, 3) := by decide +kernel
theorem dX3_readText_20 : decode cX3_readText 20 = .ok (.iconst 1, 1) := by decide +kernel
theorem dX3_readText_21 : decode cX3_readText 21 = .ok (.istore 4, 2) := by decide +kernel
theorem dX3_readText_23 : decode cX3_readText 23 = .ok (.iload 4, 2) := by decide +kernel
theorem dX3_readText_25 : decode cX3_readText 25 = .ok (.bipush 120, 2) := by decide +kernel
theorem dX3_readText_27 : decode cX3_readText 27 = .ok (.if_icmp .gt 53, 3) := by decide +kernel
theorem dX3_readText_30 : decode cX3_readText 30 = .ok (.aload_n 0, 1) := by decide +kernel
theorem dX3_readText_31 : decode cX3_readText 31 = .ok (.invokevirtual 37, 3) := by decide +kernel
theorem dX3_readText_34 : decode cX3_readText 34 = .ok (.aload_n 0, 1) := by decide +kernel
theorem dX3_readText_35 : decode cX3_readText 35 = .ok (.aload_n 3, 1) := by decide +kernel
theorem dX3_readText_36 : decode cX3_readText 36 = .ok (.invokevirtual 40, 3) := by decide +kernel
theorem dX3_readText_39 : decode cX3_readText 39 = .ok (.ifCond .eq 18, 3) := by decide +kernel
theorem dX3_readText_42 : decode cX3_readText 42 = .ok (.aload_n 0, 1) := by decide +kernel
theorem dX3_readText_43 : decode cX3_readText 43 = .ok (.getfield 19, 3) := by decide +kernel
theorem dX3_readText_46 : decode cX3_readText 46 = .ok (.iconst 3, 1) := by decide +kernel
theorem dX3_readText_47 : decode cX3_readText 47 = .ok (.if_icmp .eq 17, 3) := by decide +kernel
theorem dX3_readText_50 : decode cX3_readText 50 = .ok (.aload_n 0, 1) := by decide +kernel
theorem dX3_readText_51 : decode cX3_readText 51 = .ok (.getfield 19, 3) := by decide +kernel
theorem dX3_readText_54 : decode cX3_readText 54 = .ok (.ifCond .eq 10, 3) := by decide +kernel
theorem dX3_readText_57 : decode cX3_readText 57 = .ok (.iconst (-1), 1) := by decide +kernel
theorem dX3_readText_58 : decode cX3_readText 58 = .ok (.aload_n 0, 1) := by decide +kernel
theorem dX3_readText_59 : decode cX3_readText 59 = .ok (.getfield 22, 3) := by decide +kernel
theorem dX3_readText_62 : decode cX3_readText 62 = .ok (.isub, 1) := by decide +kernel
theorem dX3_readText_63 : decode cX3_readText 63 = .ok (.ireturn, 1) := by decide +kernel
theorem dX3_readText_64 : decode cX3_readText 64 = .ok (.aload_n 0, 1) := by decide +kernel
theorem dX3_readText_65 : decode cX3_readText 65 = .ok (.getfield 19, 3) := by decide +kernel
theorem dX3_readText_68 : decode cX3_readText 68 = .ok (.ifCond .ne 6, 3) := by decide +kernel
theorem dX3_readText_71 : decode cX3_readText 71 = .ok (.iload 4, 2) := by decide +kernel
theorem dX3_readText_73 : decode cX3_readText 73 = .ok (.ireturn, 1) := by decide +kernel
theorem dX3_readText_74 : decode cX3_readText 74 = .ok (.iinc 4 1, 3) := by decide +kernel
theorem dX3_readText_77 : decode cX3_readText 77 = .ok (.goto (-54), 3) := by decide +kernel
theorem dX3_readText_80 : decode cX3_readText 80 = .ok (.iconst (-1), 1) := by decide +kernel
theorem dX3_readText_81 : decode cX3_readText 81 = .ok (.aload_n 0, 1) := by decide +kernel
theorem dX3_readText_82 : decode cX3_readText 82 = .ok (.getfield 22, 3) := by decide +kernel
theorem dX3_readText_85 : decode cX3_readText 85 = .ok (.isub, 1) := by decide +kernel
theorem dX3_readText_86 : decode cX3_readText 86 = .ok (.ireturn, 1) := by decide +kernel
theorem dX3_readItem_0 : decode cX3_readItem 0 = .ok (.iconst 0, 1) := by decide +kernel
theorem dX3_readItem_1 : decode cX3_readItem 1 = .ok (.istore_n 2, 1) := by decide +kernel
theorem dX3_readItem_2 : decode cX3_readItem 2 = .ok (.iload_n 2, 1) := by decide +kernel
theorem dX3_readItem_3 : decode cX3_readItem 3 = .ok (.bipush 7, 2) := by decide +kernel
theorem dX3_readItem_5 : decode cX3_readItem 5 = .ok (.if_icmp .ge 27, 3) := by decide +kernel
theorem dX3_readItem_8 : decode cX3_readItem 8 = .ok (.aload_n 0, 1) := by decide +kernel
theorem dX3_readItem_9 : decode cX3_readItem 9 = .ok (.iload_n 2, 1) := by decide +kernel
theorem dX3_readItem_10 : decode cX3_readItem 10 = .ok (.invokestatic 44, 3) := by decide +kernel
theorem dX3_readItem_13 : decode cX3_readItem 13 = .ok (.invokevirtual 48, 3) := by decide +kernel
theorem dX3_readItem_16 : decode cX3_readItem 16 = .ok (.ifCond .eq 10, 3) := by decide +kernel
theorem dX3_readItem_19 : decode cX3_readItem 19 = .ok (.aload_n 0, 1) := by decide +kernel
theorem dX3_readItem_20 : decode cX3_readItem 20 = .ok (.aload_n 1, 1) := by decide +kernel
theorem dX3_readItem_21 : decode cX3_readItem 21 = .ok (.iload_n 2, 1) := by decide +kernel
theorem dX3_readItem_22 : decode cX3_readItem 22 = .ok (.invokevirtual 52, 3) := by decide +kernel
theorem dX3_readItem_25 : decode cX3_readItem 25 = .ok (.ireturn, 1) := by decide +kernel
theorem dX3_readItem_26 : decode cX3_readItem 26 = .ok (.iinc 2 1, 3) := by decide +kernel
theorem dX3_readItem_29 : decode cX3_readItem 29 = .ok (.goto (-27), 3) := by decide +kernel
theorem dX3_readItem_32 : decode cX3_readItem 32 = .ok (.aload_n 0, 1) := by decide +kernel
theorem dX3_readItem_33 : decode cX3_readItem 33 = .ok (.ldc 56, 2) := by decide +kernel
theorem dX3_readItem_35 : decode cX3_readItem 35 = .ok (.invokevirtual 48, 3) := by decide +kernel
theorem dX3_readItem_38 : decode cX3_readItem 38 = .ok (.ifCond .eq 15, 3) := by decide +kernel
theorem dX3_readItem_41 : decode cX3_readItem 41 = .ok (.aload_n 0, 1) := by decide +kernel
theorem dX3_readItem_42 : decode cX3_readItem 42 = .ok (.aload_n 1, 1) := by decide +kernel
theorem dX3_readItem_43 : decode cX3_readItem 43 = .ok (.invokevirtual 58, 3) := by decide +kernel
theorem dX3_readItem_46 : decode cX3_readItem 46 = .ok (.ifCond .eq 7, 3) := by decide +kernel
theorem dX3_readItem_49 : decode cX3_readItem 49 = .ok (.iconst 1, 1) := by decide +kernel
theorem dX3_readItem_50 : decode cX3_readItem 50 = .ok (.goto 4, 3) := by decide +kernel
theorem dX3_readItem_53 : decode cX3_readItem 53 = .ok (.iconst 0, 1) := by decide +kernel
theorem dX3_readItem_54 : decode cX3_readItem 54 = .ok (.ireturn, 1) := by decide +kernel
theorem dX3_readCoin_0 : decode cX3_readCoin 0 = .ok (.aload_n 1, 1) := by decide +kernel
theorem dX3_readCoin_1 : decode cX3_readCoin 1 = .ok (.getfield 61, 3) := by decide +kernel
theorem dX3_readCoin_4 : decode cX3_readCoin 4 = .ok (.bipush 10, 2) := by decide +kernel
theorem dX3_readCoin_6 : decode cX3_readCoin 6 = .ok (.if_icmp .lt 5, 3) := by decide +kernel
theorem dX3_readCoin_9 : decode cX3_readCoin 9 = .ok (.iconst 0, 1) := by decide +kernel
theorem dX3_readCoin_10 : decode cX3_readCoin 10 = .ok (.ireturn, 1) := by decide +kernel
theorem dX3_readCoin_11 : decode cX3_readCoin 11 = .ok (.aload_n 0, 1) := by decide +kernel
theorem dX3_readCoin_12 : decode cX3_readCoin 12 = .ok (.invokevirtual 37, 3) := by decide +kernel
theorem dX3_readCoin_15 : decode cX3_readCoin 15 = .ok (.aload_n 0, 1) := by decide +kernel
theorem dX3_readCoin_16 : decode cX3_readCoin 16 = .ok (.bipush 99, 2) := by decide +kernel
theorem dX3_readCoin_18 : decode cX3_readCoin 18 = .ok (.invokevirtual 66, 3) := by decide +kernel
theorem dX3_readCoin_21 : decode cX3_readCoin 21 = .ok (.ifCond .ne 5, 3) := by decide +kernel
theorem dX3_readCoin_24 : decode cX3_readCoin 24 = .ok (.iconst 0, 1) := by decide +kernel
theorem dX3_readCoin_25 : decode cX3_readCoin 25 = .ok (.ireturn, 1) := by decide +kernel
theorem dX3_readCoin_26 : decode cX3_readCoin 26 = .ok (.aload_n 0, 1) := by decide +kernel
theorem dX3_readCoin_27 : decode cX3_readCoin 27 = .ok (.getfield 28, 3) := by decide +kernel
theorem dX3_readCoin_30 : decode cX3_readCoin 30 = .ok (.istore_n 3, 1) := by decide +kernel
theorem dX3_readCoin_31 : decode cX3_readCoin 31 = .ok (.aload_n 0, 1) := by decide +kernel
theorem dX3_readCoin_32 : decode cX3_readCoin 32 = .ok (.invokevirtual 37, 3) := by decide +kernel
theorem dX3_readCoin_35 : decode cX3_readCoin 35 = .ok (.aload_n 0, 1) := by decide +kernel
theorem dX3_readCoin_36 : decode cX3_readCoin 36 = .ok (.bipush 99, 2) := by decide +kernel
theorem dX3_readCoin_38 : decode cX3_readCoin 38 = .ok (.invokevirtual 66, 3) := by decide +kernel
theorem dX3_readCoin_41 : decode cX3_readCoin 41 = .ok (.ifCond .ne 5, 3) := by decide +kernel
theorem dX3_readCoin_44 : decode cX3_readCoin 44 = .ok (.iconst 0, 1) := by decide +kernel
theorem dX3_readCoin_45 : decode cX3_readCoin 45 = .ok (.ireturn, 1) := by decide +kernel
theorem dX3_readCoin_46 : decode cX3_readCoin 46 = .ok (.aload_n 1, 1) := by decide +kernel
theorem dX3_readCoin_47 : decode cX3_readCoin 47 = .ok (.getfield 70, 3) := by decide +kernel
theorem dX3_readCoin_50 : decode cX3_readCoin 50 = .ok (.aload_n 1, 1) := by decide +kernel
theorem dX3_readCoin_51 : decode cX3_readCoin 51 = .ok (.iload_n 2, 1) := by decide +kernel
theorem dX3_readCoin_52 : decode cX3_readCoin 52 = .ok (.iload_n 3, 1) := by decide +kernel
theorem dX3_readCoin_53 : decode cX3_readCoin 53 = .ok (.aload_n 0, 1) := by decide +kernel
theorem dX3_readCoin_54 : decode cX3_readCoin 54 = .ok (.getfield 28, 3) := by decide +kernel
theorem dX3_readCoin_57 : decode cX3_readCoin 57 = .ok (.invokevirtual 74, 3) := by decide +kernel
theorem dX3_readCoin_60 : decode cX3_readCoin 60 = .ok (.aaload, 1) := by decide +kernel
theorem dX3_readCoin_61 : decode cX3_readCoin 61 = .ok (.astore 4, 2) := by decide +kernel
theorem dX3_readCoin_63 : decode cX3_readCoin 63 = .ok (.aload_n 0, 1) := by decide +kernel
theorem dX3_readCoin_64 : decode cX3_readCoin 64 = .ok (.invokevirtual 37, 3) := by decide +kernel
theorem dX3_readCoin_67 : decode cX3_readCoin 67 = .ok (.aload_n 0, 1) := by decide +kernel
theorem dX3_readCoin_68 : decode cX3_readCoin 68 = .ok (.ldc 78, 2) := by decide +kernel
theorem dX3_readCoin_70 : decode cX3_readCoin 70 = .ok (.invokevirtual 48, 3) := by decide +kernel
theorem dX3_readCoin_73 : decode cX3_readCoin 73 = .ok (.ifCond .eq 30, 3) := by decide +kernel
theorem dX3_readCoin_76 : decode cX3_readCoin 76 = .ok (.aload_n 0, 1) := by decide +kernel
theorem dX3_readCoin_77 : decode cX3_readCoin 77 = .ok (.invokevirtual 37, 3) := by decide +kernel
theorem dX3_readCoin_80 : decode cX3_readCoin 80 = .ok (.aload_n 0, 1) := by decide +kernel
theorem dX3_readCoin_81 : decode cX3_readCoin 81 = .ok (.iconst 3, 1) := by decide +kernel
theorem dX3_readCoin_82 : decode cX3_readCoin 82 = .ok (.invokevirtual 66, 3) := by decide +kernel
theorem dX3_readCoin_85 : decode cX3_readCoin 85 = .ok (.ifCond .ne 5, 3) := by decide +kernel
theorem dX3_readCoin_88 : decode cX3_readCoin 88 = .ok (.iconst 0, 1) := by decide +kernel
theorem dX3_readCoin_89 : decode cX3_readCoin 89 = .ok (.ireturn, 1) := by decide +kernel
theorem dX3_readCoin_90 : decode cX3_readCoin 90 = .ok (.aload 4, 2) := by decide +kernel
theorem dX3_readCoin_92 : decode cX3_readCoin 92 = .ok (.aload_n 0, 1) := by decide +kernel
theorem dX3_readCoin_93 : decode cX3_readCoin 93 = .ok (.getfield 28, 3) := by decide +kernel
theorem dX3_readCoin_96 : decode cX3_readCoin 96 = .ok (.putfield 80, 3) := by decide +kernel
theorem dX3_readCoin_99 : decode cX3_readCoin 99 = .ok (.aload_n 0, 1) := by decide +kernel
theorem dX3_readCoin_100 : decode cX3_readCoin 100 = .ok (.invokevirtual 37, 3) := by decide +kernel
theorem dX3_readCoin_103 : decode cX3_readCoin 103 = .ok (.aload_n 0, 1) := by decide +kernel
theorem dX3_readCoin_104 : decode cX3_readCoin 104 = .ok (.ldc 85, 2) := by decide +kernel
theorem dX3_readCoin_106 : decode cX3_readCoin 106 = .ok (.invokevirtual 48, 3) := by decide +kernel
theorem dX3_readCoin_109 : decode cX3_readCoin 109 = .ok (.ifCond .eq 13, 3) := by decide +kernel
theorem dX3_readCoin_112 : decode cX3_readCoin 112 = .ok (.aload 4, 2) := by decide +kernel
theorem dX3_readCoin_114 : decode cX3_readCoin 114 = .ok (.iconst 1, 1) := by decide +kernel
theorem dX3_readCoin_115 : decode cX3_readCoin 115 = .ok (.putfield 87, 3) := by decide +kernel
theorem dX3_readCoin_118 : decode cX3_readCoin 118 = .ok (.aload_n 0, 1) := by decide +kernel
theorem dX3_readCoin_119 : decode cX3_readCoin 119 = .ok (.invokevirtual 37, 3) := by decide +kernel
theorem dX3_readCoin_122 : decode cX3_readCoin 122 = .ok (.iconst 1, 1) := by decide +kernel
theorem dX3_readCoin_123 : decode cX3_readCoin 123 = .ok (.ireturn, 1) := by decide +kernel
theorem dX3_readPay_0 : decode cX3_readPay 0 = .ok (.aload_n 0, 1) := by decide +kernel
theorem dX3_readPay_1 : decode cX3_readPay 1 = .ok (.invokevirtual 37, 3) := by decide +kernel
theorem dX3_readPay_4 : decode cX3_readPay 4 = .ok (.aload_n 0, 1) := by decide +kernel
theorem dX3_readPay_5 : decode cX3_readPay 5 = .ok (.aload_n 1, 1) := by decide +kernel
theorem dX3_readPay_6 : decode cX3_readPay 6 = .ok (.getfield 61, 3) := by decide +kernel
theorem dX3_readPay_9 : decode cX3_readPay 9 = .ok (.iconst 1, 1) := by decide +kernel
theorem dX3_readPay_10 : decode cX3_readPay 10 = .ok (.isub, 1) := by decide +kernel
theorem dX3_readPay_11 : decode cX3_readPay 11 = .ok (.invokevirtual 66, 3) := by decide +kernel
theorem dX3_readPay_14 : decode cX3_readPay 14 = .ok (.ifCond .ne 5, 3) := by decide +kernel
theorem dX3_readPay_17 : decode cX3_readPay 17 = .ok (.iconst 0, 1) := by decide +kernel
theorem dX3_readPay_18 : decode cX3_readPay 18 = .ok (.ireturn, 1) := by decide +kernel
theorem dX3_readPay_19 : decode cX3_readPay 19 = .ok (.aload_n 1, 1) := by decide +kernel
theorem dX3_readPay_20 : decode cX3_readPay 20 = .ok (.getfield 70, 3) := by decide +kernel
theorem dX3_readPay_23 : decode cX3_readPay 23 = .ok (.aload_n 0, 1) := by decide +kernel
theorem dX3_readPay_24 : decode cX3_readPay 24 = .ok (.getfield 28, 3) := by decide +kernel
theorem dX3_readPay_27 : decode cX3_readPay 27 = .ok (.aaload, 1) := by decide +kernel
theorem dX3_readPay_28 : decode cX3_readPay 28 = .ok (.astore_n 2, 1) := by decide +kernel
theorem dX3_readPay_29 : decode cX3_readPay 29 = .ok (.aload_n 0, 1) := by decide +kernel
theorem dX3_readPay_30 : decode cX3_readPay 30 = .ok (.invokevirtual 37, 3) := by decide +kernel
theorem dX3_readPay_33 : decode cX3_readPay 33 = .ok (.aload_n 0, 1) := by decide +kernel
theorem dX3_readPay_34 : decode cX3_readPay 34 = .ok (.ldc 90, 2) := by decide +kernel
theorem dX3_readPay_36 : decode cX3_readPay 36 = .ok (.invokevirtual 48, 3) := by decide +kernel
theorem dX3_readPay_39 : decode cX3_readPay 39 = .ok (.ifCond .ne 5, 3) := by decide +kernel
theorem dX3_readPay_42 : decode cX3_readPay 42 = .ok (.iconst 0, 1) := by decide +kernel
theorem dX3_readPay_43 : decode cX3_readPay 43 = .ok (.ireturn, 1) := by decide +kernel
theorem dX3_readPay_44 : decode cX3_readPay 44 = .ok (.aload_n 0, 1) := by decide +kernel
theorem dX3_readPay_45 : decode cX3_readPay 45 = .ok (.invokevirtual 37, 3) := by decide +kernel
theorem dX3_readPay_48 : decode cX3_readPay 48 = .ok (.aload_n 0, 1) := by decide +kernel
theorem dX3_readPay_49 : decode cX3_readPay 49 = .ok (.iconst 3, 1) := by decide +kernel
theorem dX3_readPay_50 : decode cX3_readPay 50 = .ok (.invokevirtual 66, 3) := by decide +kernel
theorem dX3_readPay_53 : decode cX3_readPay 53 = .ok (.ifCond .eq 14, 3) := by decide +kernel
theorem dX3_readPay_56 : decode cX3_readPay 56 = .ok (.aload_n 0, 1) := by decide +kernel
theorem dX3_readPay_57 : decode cX3_readPay 57 = .ok (.getfield 28, 3) := by decide +kernel
theorem dX3_readPay_60 : decode cX3_readPay 60 = .ok (.aload_n 2, 1) := by decide +kernel
theorem dX3_readPay_61 : decode cX3_readPay 61 = .ok (.getfield 80, 3) := by decide +kernel
theorem dX3_readPay_64 : decode cX3_readPay 64 = .ok (.if_icmp .ne 5, 3) := by decide +kernel
theorem dX3_readPay_67 : decode cX3_readPay 67 = .ok (.iconst 0, 1) := by decide +kernel
theorem dX3_readPay_68 : decode cX3_readPay 68 = .ok (.ireturn, 1) := by decide +kernel
theorem dX3_readPay_69 : decode cX3_readPay 69 = .ok (.aload_n 2, 1) := by decide +kernel
theorem dX3_readPay_70 : decode cX3_readPay 70 = .ok (.aload_n 0, 1) := by decide +kernel
theorem dX3_readPay_71 : decode cX3_readPay 71 = .ok (.getfield 28, 3) := by decide +kernel
theorem dX3_readPay_74 : decode cX3_readPay 74 = .ok (.invokevirtual 92, 3) := by decide +kernel
theorem dX3_readPay_77 : decode cX3_readPay 77 = .ok (.aload_n 0, 1) := by decide +kernel
theorem dX3_readPay_78 : decode cX3_readPay 78 = .ok (.invokevirtual 37, 3) := by decide +kernel
theorem dX3_readPay_81 : decode cX3_readPay 81 = .ok (.iconst 1, 1) := by decide +kernel
theorem dX3_readPay_82 : decode cX3_readPay 82 = .ok (.ireturn, 1) := by decide +kernel
theorem dX3_isNumber_0 : decode cX3_isNumber 0 = .ok (.aload_n 0, 1) := by decide +kernel
theorem dX3_isNumber_1 : decode cX3_isNumber 1 = .ok (.getfield 19, 3) := by decide +kernel
theorem dX3_isNumber_4 : decode cX3_isNumber 4 = .ok (.iconst 2, 1) := by decide +kernel
theorem dX3_isNumber_5 : decode cX3_isNumber 5 = .ok (.if_icmp .ne 15, 3) := by decide +kernel
theorem dX3_isNumber_8 : decode cX3_isNumber 8 = .ok (.aload_n 0, 1) := by decide +kernel
theorem dX3_isNumber_9 : decode cX3_isNumber 9 = .ok (.getfield 28, 3) := by decide +kernel
theorem dX3_isNumber_12 : decode cX3_isNumber 12 = .ok (.iload_n 1, 1) := by decide +kernel
theorem dX3_isNumber_13 : decode cX3_isNumber 13 = .ok (.if_icmp .gt 7, 3) := by decide +kernel
theorem dX3_isNumber_16 : decode cX3_isNumber 16 = .ok (.iconst 1, 1) := by decide +kernel
theorem dX3_isNumber_17 : decode cX3_isNumber 17 = .ok (.goto 4, 3) := by decide +kernel
theorem dX3_isNumber_20 : decode cX3_isNumber 20 = .ok (.iconst 0, 1) := by decide +kernel
theorem dX3_isNumber_21 : decode cX3_isNumber 21 = .ok (.ireturn, 1) := by decide +kernel
theorem dX3_isWord_0 : decode cX3_isWord 0 = .ok (.aload_n 0, 1) := by decide +kernel
theorem dX3_isWord_1 : decode cX3_isWord 1 = .ok (.getfield 19, 3) := by decide +kernel
theorem dX3_isWord_4 : decode cX3_isWord 4 = .ok (.iconst 1, 1) := by decide +kernel
theorem dX3_isWord_5 : decode cX3_isWord 5 = .ok (.if_icmp .ne 19, 3) := by decide +kernel
theorem dX3_isWord_8 : decode cX3_isWord 8 = .ok (.aload_n 0, 1) := by decide +kernel
theorem dX3_isWord_9 : decode cX3_isWord 9 = .ok (.getfield 25, 3) := by decide +kernel
theorem dX3_isWord_12 : decode cX3_isWord 12 = .ok (.aload_n 0, 1) := by decide +kernel
theorem dX3_isWord_13 : decode cX3_isWord 13 = .ok (.getfield 22, 3) := by decide +kernel
theorem dX3_isWord_16 : decode cX3_isWord 16 = .ok (.isub, 1) := by decide +kernel
theorem dX3_isWord_17 : decode cX3_isWord 17 = .ok (.aload_n 1, 1) := by decide +kernel
theorem dX3_isWord_18 : decode cX3_isWord 18 = .ok (.invokevirtual 96, 3) := by decide +kernel
theorem dX3_isWord_21 : decode cX3_isWord 21 = .ok (.if_icmp .eq 5, 3) := by decide +kernel
theorem dX3_isWord_24 : decode cX3_isWord 24 = .ok (.iconst 0, 1) := by decide +kernel
theorem dX3_isWord_25 : decode cX3_isWord 25 = .ok (.ireturn, 1) := by decide +kernel
theorem dX3_isWord_26 : decode cX3_isWord 26 = .ok (.iconst 0, 1) := by decide +kernel
theorem dX3_isWord_27 : decode cX3_isWord 27 = .ok (.istore_n 2, 1) := by decide +kernel
theorem dX3_isWord_28 : decode cX3_isWord 28 = .ok (.iload_n 2, 1) := by decide +kernel
theorem dX3_isWord_29 : decode cX3_isWord 29 = .ok (.aload_n 1, 1) := by decide +kernel
theorem dX3_isWord_30 : decode cX3_isWord 30 = .ok (.invokevirtual 96, 3) := by decide +kernel
theorem dX3_isWord_33 : decode cX3_isWord 33 = .ok (.if_icmp .ge 30, 3) := by decide +kernel
theorem dX3_isWord_36 : decode cX3_isWord 36 = .ok (.aload_n 0, 1) := by decide +kernel
theorem dX3_isWord_37 : decode cX3_isWord 37 = .ok (.getfield 9, 3) := by decide +kernel
theorem dX3_isWord_40 : decode cX3_isWord 40 = .ok (.aload_n 0, 1) := by decide +kernel
theorem dX3_isWord_41 : decode cX3_isWord 41 = .ok (.getfield 22, 3) := by decide +kernel
theorem dX3_isWord_44 : decode cX3_isWord 44 = .ok (.iload_n 2, 1) := by decide +kernel
theorem dX3_isWord_45 : decode cX3_isWord 45 = .ok (.iadd, 1) := by decide +kernel
theorem dX3_isWord_46 : decode cX3_isWord 46 = .ok (.iaload, 1) := by decide +kernel
theorem dX3_isWord_47 : decode cX3_isWord 47 = .ok (.aload_n 1, 1) := by decide +kernel
theorem dX3_isWord_48 : decode cX3_isWord 48 = .ok (.iload_n 2, 1) := by decide +kernel
theorem dX3_isWord_49 : decode cX3_isWord 49 = .ok (.invokevirtual 101, 3) := by decide +kernel
theorem dX3_isWord_52 : decode cX3_isWord 52 = .ok (.if_icmp .eq 5, 3) := by decide +kernel
theorem dX3_isWord_55 : decode cX3_isWord 55 = .ok (.iconst 0, 1) := by decide +kernel
