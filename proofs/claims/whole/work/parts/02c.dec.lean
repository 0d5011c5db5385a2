theorem dX6_fewest_36 : decode cX6_fewest 36 = .ok (.invokevirtual 184, 3) := by decide +kernel
theorem dX6_fewest_39 : decode cX6_fewest 39 = .ok (.istore 4, 2) := by decide +kernel
theorem dX6_fewest_41 : decode cX6_fewest 41 = .ok (.iload 4, 2) := by decide +kernel
theorem dX6_fewest_43 : decode cX6_fewest 43 = .ok (.ifCond .lt 8, 3) := by decide +kernel
theorem dX6_fewest_46 : decode cX6_fewest 46 = .ok (.iload 4, 2) := by decide +kernel
theorem dX6_fewest_48 : decode cX6_fewest 48 = .ok (.goto 9, 3) := by decide +kernel
theorem dX6_fewest_51 : decode cX6_fewest 51 = .ok (.aload_n 0, 1) := by decide +kernel
theorem dX6_fewest_52 : decode cX6_fewest 52 = .ok (.ldc 161, 2) := by decide +kernel
theorem dX6_fewest_54 : decode cX6_fewest 54 = .ok (.invokevirtual 70, 3) := by decide +kernel
theorem dX6_fewest_57 : decode cX6_fewest 57 = .ok (.ireturn, 1) := by decide +kernel
theorem dX6_dearth_0 : decode cX6_dearth 0 = .ok (.iload_n 1, 1) := by decide +kernel
theorem dX6_dearth_1 : decode cX6_dearth 1 = .ok (.iload_n 2, 1) := by decide +kernel
theorem dX6_dearth_2 : decode cX6_dearth 2 = .ok (.invokestatic 142, 3) := by decide +kernel
theorem dX6_dearth_5 : decode cX6_dearth 5 = .ok (.ifCond .ne 10, 3) := by decide +kernel
theorem dX6_dearth_8 : decode cX6_dearth 8 = .ok (.aload_n 0, 1) := by decide +kernel
theorem dX6_dearth_9 : decode cX6_dearth 9 = .ok (.ldc 69, 2) := by decide +kernel
theorem dX6_dearth_11 : decode cX6_dearth 11 = .ok (.invokevirtual 70, 3) := by decide +kernel
theorem dX6_dearth_14 : decode cX6_dearth 14 = .ok (.ireturn, 1) := by decide +kernel
theorem dX6_dearth_15 : decode cX6_dearth 15 = .ok (.aload_n 0, 1) := by decide +kernel
theorem dX6_dearth_16 : decode cX6_dearth 16 = .ok (.getfield 12, 3) := by decide +kernel
theorem dX6_dearth_19 : decode cX6_dearth 19 = .ok (.iload_n 2, 1) := by decide +kernel
theorem dX6_dearth_20 : decode cX6_dearth 20 = .ok (.invokevirtual 127, 3) := by decide +kernel
theorem dX6_dearth_23 : decode cX6_dearth 23 = .ok (.istore_n 3, 1) := by decide +kernel
theorem dX6_dearth_24 : decode cX6_dearth 24 = .ok (.aload_n 0, 1) := by decide +kernel
theorem dX6_dearth_25 : decode cX6_dearth 25 = .ok (.getfield 12, 3) := by decide +kernel
theorem dX6_dearth_28 : decode cX6_dearth 28 = .ok (.iload_n 3, 1) := by decide +kernel
theorem dX6_dearth_29 : decode cX6_dearth 29 = .ok (.invokevirtual 130, 3) := by decide +kernel
theorem dX6_dearth_32 : decode cX6_dearth 32 = .ok (.istore 4, 2) := by decide +kernel
theorem dX6_dearth_34 : decode cX6_dearth 34 = .ok (.aload_n 0, 1) := by decide +kernel
theorem dX6_dearth_35 : decode cX6_dearth 35 = .ok (.getfield 50, 3) := by decide +kernel
theorem dX6_dearth_38 : decode cX6_dearth 38 = .ok (.aload_n 0, 1) := by decide +kernel
theorem dX6_dearth_39 : decode cX6_dearth 39 = .ok (.getfield 12, 3) := by decide +kernel
theorem dX6_dearth_42 : decode cX6_dearth 42 = .ok (.aload_n 0, 1) := by decide +kernel
theorem dX6_dearth_43 : decode cX6_dearth 43 = .ok (.getfield 12, 3) := by decide +kernel
theorem dX6_dearth_46 : decode cX6_dearth 46 = .ok (.iload_n 1, 1) := by decide +kernel
theorem dX6_dearth_47 : decode cX6_dearth 47 = .ok (.invokevirtual 127, 3) := by decide +kernel
theorem dX6_dearth_50 : decode cX6_dearth 50 = .ok (.iload_n 3, 1) := by decide +kernel
theorem dX6_dearth_51 : decode cX6_dearth 51 = .ok (.ior, 1) := by decide +kernel
theorem dX6_dearth_52 : decode cX6_dearth 52 = .ok (.invokevirtual 150, 3) := by decide +kernel
theorem dX6_dearth_55 : decode cX6_dearth 55 = .ok (.aload_n 0, 1) := by decide +kernel
theorem dX6_dearth_56 : decode cX6_dearth 56 = .ok (.getfield 50, 3) := by decide +kernel
theorem dX6_dearth_59 : decode cX6_dearth 59 = .ok (.iload 4, 2) := by decide +kernel
theorem dX6_dearth_61 : decode cX6_dearth 61 = .ok (.iconst 1, 1) := by decide +kernel
theorem dX6_dearth_62 : decode cX6_dearth 62 = .ok (.iadd, 1) := by decide +kernel
theorem dX6_dearth_63 : decode cX6_dearth 63 = .ok (.invokevirtual 165, 3) := by decide +kernel
theorem dX6_dearth_66 : decode cX6_dearth 66 = .ok (.iload 4, 2) := by decide +kernel
theorem dX6_dearth_68 : decode cX6_dearth 68 = .ok (.isub, 1) := by decide +kernel
theorem dX6_dearth_69 : decode cX6_dearth 69 = .ok (.istore 5, 2) := by decide +kernel
theorem dX6_dearth_71 : decode cX6_dearth 71 = .ok (.iload 5, 2) := by decide +kernel
theorem dX6_dearth_73 : decode cX6_dearth 73 = .ok (.sipush 999, 3) := by decide +kernel
theorem dX6_dearth_76 : decode cX6_dearth 76 = .ok (.if_icmp .gt 8, 3) := by decide +kernel
theorem dX6_dearth_79 : decode cX6_dearth 79 = .ok (.iload 5, 2) := by decide +kernel
theorem dX6_dearth_81 : decode cX6_dearth 81 = .ok (.goto 9, 3) := by decide +kernel
theorem dX6_dearth_84 : decode cX6_dearth 84 = .ok (.aload_n 0, 1) := by decide +kernel
theorem dX6_dearth_85 : decode cX6_dearth 85 = .ok (.ldc 161, 2) := by decide +kernel
theorem dX6_dearth_87 : decode cX6_dearth 87 = .ok (.invokevirtual 70, 3) := by decide +kernel
theorem dX6_dearth_90 : decode cX6_dearth 90 = .ok (.ireturn, 1) := by decide +kernel
theorem dX6_gain_0 : decode cX6_gain 0 = .ok (.aload_n 0, 1) := by decide +kernel
theorem dX6_gain_1 : decode cX6_gain 1 = .ok (.iload_n 1, 1) := by decide +kernel
theorem dX6_gain_2 : decode cX6_gain 2 = .ok (.iload_n 2, 1) := by decide +kernel
theorem dX6_gain_3 : decode cX6_gain 3 = .ok (.invokevirtual 188, 3) := by decide +kernel
theorem dX6_gain_6 : decode cX6_gain 6 = .ok (.istore_n 3, 1) := by decide +kernel
theorem dX6_gain_7 : decode cX6_gain 7 = .ok (.iload_n 3, 1) := by decide +kernel
theorem dX6_gain_8 : decode cX6_gain 8 = .ok (.ifCond .ne 13, 3) := by decide +kernel
theorem dX6_gain_11 : decode cX6_gain 11 = .ok (.aload_n 0, 1) := by decide +kernel
theorem dX6_gain_12 : decode cX6_gain 12 = .ok (.getfield 57, 3) := by decide +kernel
theorem dX6_gain_15 : decode cX6_gain 15 = .ok (.getfield 171, 3) := by decide +kernel
theorem dX6_gain_18 : decode cX6_gain 18 = .ok (.goto 8, 3) := by decide +kernel
theorem dX6_gain_21 : decode cX6_gain 21 = .ok (.aload_n 0, 1) := by decide +kernel
theorem dX6_gain_22 : decode cX6_gain 22 = .ok (.iload_n 3, 1) := by decide +kernel
theorem dX6_gain_23 : decode cX6_gain 23 = .ok (.invokevirtual 70, 3) := by decide +kernel
theorem dX6_gain_26 : decode cX6_gain 26 = .ok (.ireturn, 1) := by decide +kernel
theorem dX6_lot_0 : decode cX6_lot 0 = .ok (.aload_n 0, 1) := by decide +kernel
theorem dX6_lot_1 : decode cX6_lot 1 = .ok (.iload_n 1, 1) := by decide +kernel
theorem dX6_lot_2 : decode cX6_lot 2 = .ok (.iload_n 2, 1) := by decide +kernel
theorem dX6_lot_3 : decode cX6_lot 3 = .ok (.invokevirtual 188, 3) := by decide +kernel
theorem dX6_lot_6 : decode cX6_lot 6 = .ok (.istore_n 3, 1) := by decide +kernel
theorem dX6_lot_7 : decode cX6_lot 7 = .ok (.iload_n 3, 1) := by decide +kernel
theorem dX6_lot_8 : decode cX6_lot 8 = .ok (.ifCond .ne 13, 3) := by decide +kernel
theorem dX6_lot_11 : decode cX6_lot 11 = .ok (.aload_n 0, 1) := by decide +kernel
theorem dX6_lot_12 : decode cX6_lot 12 = .ok (.getfield 57, 3) := by decide +kernel
theorem dX6_lot_15 : decode cX6_lot 15 = .ok (.getfield 174, 3) := by decide +kernel
theorem dX6_lot_18 : decode cX6_lot 18 = .ok (.goto 8, 3) := by decide +kernel
theorem dX6_lot_21 : decode cX6_lot 21 = .ok (.aload_n 0, 1) := by decide +kernel
theorem dX6_lot_22 : decode cX6_lot 22 = .ok (.iload_n 3, 1) := by decide +kernel
theorem dX6_lot_23 : decode cX6_lot 23 = .ok (.invokevirtual 70, 3) := by decide +kernel
theorem dX6_lot_26 : decode cX6_lot 26 = .ok (.ireturn, 1) := by decide +kernel
theorem dX6_deal_0 : decode cX6_deal 0 = .ok (.aload_n 0, 1) := by decide +kernel
theorem dX6_deal_1 : decode cX6_deal 1 = .ok (.iload_n 1, 1) := by decide +kernel
theorem dX6_deal_2 : decode cX6_deal 2 = .ok (.iload_n 2, 1) := by decide +kernel
theorem dX6_deal_3 : decode cX6_deal 3 = .ok (.invokevirtual 188, 3) := by decide +kernel
theorem dX6_deal_6 : decode cX6_deal 6 = .ok (.istore_n 3, 1) := by decide +kernel
theorem dX6_deal_7 : decode cX6_deal 7 = .ok (.iload_n 3, 1) := by decide +kernel
theorem dX6_deal_8 : decode cX6_deal 8 = .ok (.ifCond .eq 9, 3) := by decide +kernel
theorem dX6_deal_11 : decode cX6_deal 11 = .ok (.aload_n 0, 1) := by decide +kernel
theorem dX6_deal_12 : decode cX6_deal 12 = .ok (.iload_n 3, 1) := by decide +kernel
theorem dX6_deal_13 : decode cX6_deal 13 = .ok (.invokevirtual 70, 3) := by decide +kernel
theorem dX6_deal_16 : decode cX6_deal 16 = .ok (.ireturn, 1) := by decide +kernel
theorem dX6_deal_17 : decode cX6_deal 17 = .ok (.aload_n 0, 1) := by decide +kernel
theorem dX6_deal_18 : decode cX6_deal 18 = .ok (.getfield 12, 3) := by decide +kernel
theorem dX6_deal_21 : decode cX6_deal 21 = .ok (.aload_n 0, 1) := by decide +kernel
theorem dX6_deal_22 : decode cX6_deal 22 = .ok (.getfield 57, 3) := by decide +kernel
theorem dX6_deal_25 : decode cX6_deal 25 = .ok (.getfield 174, 3) := by decide +kernel
theorem dX6_deal_28 : decode cX6_deal 28 = .ok (.iload_n 2, 1) := by decide +kernel
theorem dX6_deal_29 : decode cX6_deal 29 = .ok (.aload_n 0, 1) := by decide +kernel
theorem dX6_deal_30 : decode cX6_deal 30 = .ok (.getfield 57, 3) := by decide +kernel
theorem dX6_deal_33 : decode cX6_deal 33 = .ok (.getfield 177, 3) := by decide +kernel
theorem dX6_deal_36 : decode cX6_deal 36 = .ok (.iload_n 1, 1) := by decide +kernel
theorem dX6_deal_37 : decode cX6_deal 37 = .ok (.invokevirtual 180, 3) := by decide +kernel
theorem dX6_deal_40 : decode cX6_deal 40 = .ok (.aload_n 0, 1) := by decide +kernel
theorem dX6_deal_41 : decode cX6_deal 41 = .ok (.getfield 57, 3) := by decide +kernel
theorem dX6_deal_44 : decode cX6_deal 44 = .ok (.getfield 171, 3) := by decide +kernel
theorem dX6_deal_47 : decode cX6_deal 47 = .ok (.ireturn, 1) := by decide +kernel
theorem dX6_deals_0 : decode cX6_deals 0 = .ok (.iload_n 1, 1) := by decide +kernel
theorem dX6_deals_1 : decode cX6_deals 1 = .ok (.iload_n 2, 1) := by decide +kernel
theorem dX6_deals_2 : decode cX6_deals 2 = .ok (.invokestatic 142, 3) := by decide +kernel
theorem dX6_deals_5 : decode cX6_deals 5 = .ok (.ifCond .ne 10, 3) := by decide +kernel
theorem dX6_deals_8 : decode cX6_deals 8 = .ok (.aload_n 0, 1) := by decide +kernel
theorem dX6_deals_9 : decode cX6_deals 9 = .ok (.ldc 69, 2) := by decide +kernel
theorem dX6_deals_11 : decode cX6_deals 11 = .ok (.invokevirtual 70, 3) := by decide +kernel
theorem dX6_deals_14 : decode cX6_deals 14 = .ok (.ireturn, 1) := by decide +kernel
theorem dX6_deals_15 : decode cX6_deals 15 = .ok (.aload_n 0, 1) := by decide +kernel
theorem dX6_deals_16 : decode cX6_deals 16 = .ok (.getfield 16, 3) := by decide +kernel
theorem dX6_deals_19 : decode cX6_deals 19 = .ok (.aload_n 0, 1) := by decide +kernel
theorem dX6_deals_20 : decode cX6_deals 20 = .ok (.getfield 12, 3) := by decide +kernel
theorem dX6_deals_23 : decode cX6_deals 23 = .ok (.invokevirtual 191, 3) := by decide +kernel
theorem dX6_deals_26 : decode cX6_deals 26 = .ok (.iconst 0, 1) := by decide +kernel
theorem dX6_deals_27 : decode cX6_deals 27 = .ok (.istore_n 3, 1) := by decide +kernel
theorem dX6_deals_28 : decode cX6_deals 28 = .ok (.iload_n 3, 1) := by decide +kernel
theorem dX6_deals_29 : decode cX6_deals 29 = .ok (.bipush 20, 2) := by decide +kernel
theorem dX6_deals_31 : decode cX6_deals 31 = .ok (.if_icmp .ge 48, 3) := by decide +kernel
theorem dX6_deals_34 : decode cX6_deals 34 = .ok (.aload_n 0, 1) := by decide +kernel
theorem dX6_deals_35 : decode cX6_deals 35 = .ok (.getfield 57, 3) := by decide +kernel
theorem dX6_deals_38 : decode cX6_deals 38 = .ok (.aload_n 0, 1) := by decide +kernel
theorem dX6_deals_39 : decode cX6_deals 39 = .ok (.getfield 16, 3) := by decide +kernel
theorem dX6_deals_42 : decode cX6_deals 42 = .ok (.iload_n 1, 1) := by decide +kernel
theorem dX6_deals_43 : decode cX6_deals 43 = .ok (.iload_n 2, 1) := by decide +kernel
theorem dX6_deals_44 : decode cX6_deals 44 = .ok (.invokevirtual 195, 3) := by decide +kernel
theorem dX6_deals_47 : decode cX6_deals 47 = .ok (.ifCond .eq 32, 3) := by decide +kernel
theorem dX6_deals_50 : decode cX6_deals 50 = .ok (.aload_n 0, 1) := by decide +kernel
theorem dX6_deals_51 : decode cX6_deals 51 = .ok (.getfield 16, 3) := by decide +kernel
theorem dX6_deals_54 : decode cX6_deals 54 = .ok (.aload_n 0, 1) := by decide +kernel
theorem dX6_deals_55 : decode cX6_deals 55 = .ok (.getfield 57, 3) := by decide +kernel
theorem dX6_deals_58 : decode cX6_deals 58 = .ok (.getfield 174, 3) := by decide +kernel
theorem dX6_deals_61 : decode cX6_deals 61 = .ok (.iload_n 2, 1) := by decide +kernel
theorem dX6_deals_62 : decode cX6_deals 62 = .ok (.aload_n 0, 1) := by decide +kernel
theorem dX6_deals_63 : decode cX6_deals 63 = .ok (.getfield 57, 3) := by decide +kernel
theorem dX6_deals_66 : decode cX6_deals 66 = .ok (.getfield 177, 3) := by decide +kernel
theorem dX6_deals_69 : decode cX6_deals 69 = .ok (.iload_n 1, 1) := by decide +kernel
theorem dX6_deals_70 : decode cX6_deals 70 = .ok (.invokevirtual 180, 3) := by decide +kernel
theorem dX6_deals_73 : decode cX6_deals 73 = .ok (.iinc 3 1, 3) := by decide +kernel
theorem dX6_deals_76 : decode cX6_deals 76 = .ok (.goto (-48), 3) := by decide +kernel
theorem dX6_deals_79 : decode cX6_deals 79 = .ok (.iload_n 3, 1) := by decide +kernel
theorem dX6_deals_80 : decode cX6_deals 80 = .ok (.ireturn, 1) := by decide +kernel
theorem dX6_partner_0 : decode cX6_partner 0 = .ok (.iload_n 1, 1) := by decide +kernel
theorem dX6_partner_1 : decode cX6_partner 1 = .ok (.invokestatic 124, 3) := by decide +kernel
theorem dX6_partner_4 : decode cX6_partner 4 = .ok (.ifCond .ne 10, 3) := by decide +kernel
theorem dX6_partner_7 : decode cX6_partner 7 = .ok (.aload_n 0, 1) := by decide +kernel
theorem dX6_partner_8 : decode cX6_partner 8 = .ok (.ldc 69, 2) := by decide +kernel
theorem dX6_partner_10 : decode cX6_partner 10 = .ok (.invokevirtual 70, 3) := by decide +kernel
theorem dX6_partner_13 : decode cX6_partner 13 = .ok (.ireturn, 1) := by decide +kernel
theorem dX6_partner_14 : decode cX6_partner 14 = .ok (.iconst (-1), 1) := by decide +kernel
theorem dX6_partner_15 : decode cX6_partner 15 = .ok (.istore_n 2, 1) := by decide +kernel
theorem dX6_partner_16 : decode cX6_partner 16 = .ok (.iconst 0, 1) := by decide +kernel
theorem dX6_partner_17 : decode cX6_partner 17 = .ok (.istore_n 3, 1) := by decide +kernel
theorem dX6_partner_18 : decode cX6_partner 18 = .ok (.iconst 0, 1) := by decide +kernel
theorem dX6_partner_19 : decode cX6_partner 19 = .ok (.istore 4, 2) := by decide +kernel
theorem dX6_partner_21 : decode cX6_partner 21 = .ok (.iload 4, 2) := by decide +kernel
theorem dX6_partner_23 : decode cX6_partner 23 = .ok (.iconst 4, 1) := by decide +kernel
theorem dX6_partner_24 : decode cX6_partner 24 = .ok (.if_icmp .ge 54, 3) := by decide +kernel
theorem dX6_partner_27 : decode cX6_partner 27 = .ok (.iload 4, 2) := by decide +kernel
theorem dX6_partner_29 : decode cX6_partner 29 = .ok (.iload_n 1, 1) := by decide +kernel
theorem dX6_partner_30 : decode cX6_partner 30 = .ok (.if_icmp .eq 42, 3) := by decide +kernel
theorem dX6_partner_33 : decode cX6_partner 33 = .ok (.aload_n 0, 1) := by decide +kernel
theorem dX6_partner_34 : decode cX6_partner 34 = .ok (.getfield 57, 3) := by decide +kernel
theorem dX6_partner_37 : decode cX6_partner 37 = .ok (.aload_n 0, 1) := by decide +kernel
theorem dX6_partner_38 : decode cX6_partner 38 = .ok (.getfield 12, 3) := by decide +kernel
theorem dX6_partner_41 : decode cX6_partner 41 = .ok (.iload_n 1, 1) := by decide +kernel
theorem dX6_partner_42 : decode cX6_partner 42 = .ok (.iload 4, 2) := by decide +kernel
theorem dX6_partner_44 : decode cX6_partner 44 = .ok (.invokevirtual 195, 3) := by decide +kernel
theorem dX6_partner_47 : decode cX6_partner 47 = .ok (.ifCond .eq 25, 3) := by decide +kernel
theorem dX6_partner_50 : decode cX6_partner 50 = .ok (.aload_n 0, 1) := by decide +kernel
theorem dX6_partner_51 : decode cX6_partner 51 = .ok (.getfield 57, 3) := by decide +kernel
theorem dX6_partner_54 : decode cX6_partner 54 = .ok (.getfield 171, 3) := by decide +kernel
theorem dX6_partner_57 : decode cX6_partner 57 = .ok (.iload_n 3, 1) := by decide +kernel
theorem dX6_partner_58 : decode cX6_partner 58 = .ok (.if_icmp .le 14, 3) := by decide +kernel
theorem dX6_partner_61 : decode cX6_partner 61 = .ok (.iload 4, 2) := by decide +kernel
theorem dX6_partner_63 : decode cX6_partner 63 = .ok (.istore_n 2, 1) := by decide +kernel
theorem dX6_partner_64 : decode cX6_partner 64 = .ok (.aload_n 0, 1) := by decide +kernel
theorem dX6_partner_65 : decode cX6_partner 65 = .ok (.getfield 57, 3) := by decide +kernel
theorem dX6_partner_68 : decode cX6_partner 68 = .ok (.getfield 171, 3) := by decide +kernel
theorem dX6_partner_71 : decode cX6_partner 71 = .ok (.istore_n 3, 1) := by decide +kernel
theorem dX6_partner_72 : decode cX6_partner 72 = .ok (.iinc 4 1, 3) := by decide +kernel
theorem dX6_partner_75 : decode cX6_partner 75 = .ok (.goto (-54), 3) := by decide +kernel
theorem dX6_partner_78 : decode cX6_partner 78 = .ok (.iload_n 2, 1) := by decide +kernel
theorem dX6_partner_79 : decode cX6_partner 79 = .ok (.ifCond .lt 7, 3) := by decide +kernel
theorem dX6_partner_82 : decode cX6_partner 82 = .ok (.iload_n 2, 1) := by decide +kernel
theorem dX6_partner_83 : decode cX6_partner 83 = .ok (.goto 9, 3) := by decide +kernel
theorem dX6_partner_86 : decode cX6_partner 86 = .ok (.aload_n 0, 1) := by decide +kernel
theorem dX6_partner_87 : decode cX6_partner 87 = .ok (.ldc 161, 2) := by decide +kernel
theorem dX6_partner_89 : decode cX6_partner 89 = .ok (.invokevirtual 70, 3) := by decide +kernel
theorem dX6_partner_92 : decode cX6_partner 92 = .ok (.ireturn, 1) := by decide +kernel
theorem dX6_round_0 : decode cX6_round 0 = .ok (.aload_n 0, 1) := by decide +kernel
theorem dX6_round_1 : decode cX6_round 1 = .ok (.getfield 12, 3) := by decide +kernel
theorem dX6_round_4 : decode cX6_round 4 = .ok (.iload_n 1, 1) := by decide +kernel
theorem dX6_round_5 : decode cX6_round 5 = .ok (.invokevirtual 82, 3) := by decide +kernel
theorem dX6_round_8 : decode cX6_round 8 = .ok (.ifCond .eq 22, 3) := by decide +kernel
theorem dX6_round_11 : decode cX6_round 11 = .ok (.aload_n 0, 1) := by decide +kernel
theorem dX6_round_12 : decode cX6_round 12 = .ok (.getfield 12, 3) := by decide +kernel
theorem dX6_round_15 : decode cX6_round 15 = .ok (.getfield 86, 3) := by decide +kernel
theorem dX6_round_18 : decode cX6_round 18 = .ok (.iload_n 1, 1) := by decide +kernel
theorem dX6_round_19 : decode cX6_round 19 = .ok (.aaload, 1) := by decide +kernel
theorem dX6_round_20 : decode cX6_round 20 = .ok (.getfield 95, 3) := by decide +kernel
theorem dX6_round_23 : decode cX6_round 23 = .ok (.iload_n 2, 1) := by decide +kernel
theorem dX6_round_24 : decode cX6_round 24 = .ok (.invokestatic 142, 3) := by decide +kernel
theorem dX6_round_27 : decode cX6_round 27 = .ok (.ifCond .ne 10, 3) := by decide +kernel
theorem dX6_round_30 : decode cX6_round 30 = .ok (.aload_n 0, 1) := by decide +kernel
theorem dX6_round_31 : decode cX6_round 31 = .ok (.ldc 69, 2) := by decide +kernel
theorem dX6_round_33 : decode cX6_round 33 = .ok (.invokevirtual 70, 3) := by decide +kernel
theorem dX6_round_36 : decode cX6_round 36 = .ok (.ireturn, 1) := by decide +kernel
theorem dX6_round_37 : decode cX6_round 37 = .ok (.aload_n 0, 1) := by decide +kernel
theorem dX6_round_38 : decode cX6_round 38 = .ok (.getfield 16, 3) := by decide +kernel
theorem dX6_round_41 : decode cX6_round 41 = .ok (.aload_n 0, 1) := by decide +kernel
theorem dX6_round_42 : decode cX6_round 42 = .ok (.getfield 12, 3) := by decide +kernel
theorem dX6_round_45 : decode cX6_round 45 = .ok (.invokevirtual 191, 3) := by decide +kernel
theorem dX6_round_48 : decode cX6_round 48 = .ok (.aload_n 0, 1) := by decide +kernel
theorem dX6_round_49 : decode cX6_round 49 = .ok (.getfield 16, 3) := by decide +kernel
theorem dX6_round_52 : decode cX6_round 52 = .ok (.getfield 86, 3) := by decide +kernel
theorem dX6_round_55 : decode cX6_round 55 = .ok (.iload_n 1, 1) := by decide +kernel
theorem dX6_round_56 : decode cX6_round 56 = .ok (.aaload, 1) := by decide +kernel
theorem dX6_round_57 : decode cX6_round 57 = .ok (.astore_n 3, 1) := by decide +kernel
theorem dX6_round_58 : decode cX6_round 58 = .ok (.aload_n 3, 1) := by decide +kernel
theorem dX6_round_59 : decode cX6_round 59 = .ok (.getfield 95, 3) := by decide +kernel
theorem dX6_round_62 : decode cX6_round 62 = .ok (.istore 4, 2) := by decide +kernel
theorem dX6_round_64 : decode cX6_round 64 = .ok (.aload_n 3, 1) := by decide +kernel
theorem dX6_round_65 : decode cX6_round 65 = .ok (.invokevirtual 110, 3) := by decide +kernel
theorem dX6_round_68 : decode cX6_round 68 = .ok (.istore 5, 2) := by decide +kernel
theorem dX6_round_70 : decode cX6_round 70 = .ok (.iconst 1, 1) := by decide +kernel
theorem dX6_round_71 : decode cX6_round 71 = .ok (.istore 6, 2) := by decide +kernel
theorem dX6_round_73 : decode cX6_round 73 = .ok (.iload 6, 2) := by decide +kernel
theorem dX6_round_75 : decode cX6_round 75 = .ok (.bipush 6, 2) := by decide +kernel
theorem dX6_round_77 : decode cX6_round 77 = .ok (.if_icmp .gt 40, 3) := by decide +kernel
theorem dX6_round_80 : decode cX6_round 80 = .ok (.aload_n 3, 1) := by decide +kernel
theorem dX6_round_81 : decode cX6_round 81 = .ok (.aload_n 3, 1) := by decide +kernel
theorem dX6_round_82 : decode cX6_round 82 = .ok (.getfield 95, 3) := by decide +kernel
theorem dX6_round_85 : decode cX6_round 85 = .ok (.iload 4, 2) := by decide +kernel
theorem dX6_round_87 : decode cX6_round 87 = .ok (.if_icmp .ne 7, 3) := by decide +kernel
theorem dX6_round_90 : decode cX6_round 90 = .ok (.iload_n 2, 1) := by decide +kernel
theorem dX6_round_91 : decode cX6_round 91 = .ok (.goto 5, 3) := by decide +kernel
theorem dX6_round_94 : decode cX6_round 94 = .ok (.iload 4, 2) := by decide +kernel
theorem dX6_round_96 : decode cX6_round 96 = .ok (.invokevirtual 199, 3) := by decide +kernel
theorem dX6_round_99 : decode cX6_round 99 = .ok (.aload_n 3, 1) := by decide +kernel
theorem dX6_round_100 : decode cX6_round 100 = .ok (.invokevirtual 110, 3) := by decide +kernel
theorem dX6_round_103 : decode cX6_round 103 = .ok (.iload 5, 2) := by decide +kernel
theorem dX6_round_105 : decode cX6_round 105 = .ok (.if_icmp .le 6, 3) := by decide +kernel
theorem dX6_round_108 : decode cX6_round 108 = .ok (.iload 6, 2) := by decide +kernel
theorem dX6_round_110 : decode cX6_round 110 = .ok (.ireturn, 1) := by decide +kernel
theorem dX6_round_111 : decode cX6_round 111 = .ok (.iinc 6 1, 3) := by decide +kernel
theorem dX6_round_114 : decode cX6_round 114 = .ok (.goto (-41), 3) := by decide +kernel
theorem dX6_round_117 : decode cX6_round 117 = .ok (.aload_n 0, 1) := by decide +kernel
theorem dX6_round_118 : decode cX6_round 118 = .ok (.ldc 161, 2) := by decide +kernel
theorem dX6_round_120 : decode cX6_round 120 = .ok (.invokevirtual 70, 3) := by decide +kernel
theorem dX6_round_123 : decode cX6_round 123 = .ok (.ireturn, 1) := by decide +kernel
theorem dX6_flip_0 : decode cX6_flip 0 = .ok (.iload_n 1, 1) := by decide +kernel
theorem dX6_flip_1 : decode cX6_flip 1 = .ok (.invokestatic 124, 3) := by decide +kernel
theorem dX6_flip_4 : decode cX6_flip 4 = .ok (.ifCond .eq 13, 3) := by decide +kernel
theorem dX6_flip_7 : decode cX6_flip 7 = .ok (.iload_n 2, 1) := by decide +kernel
theorem dX6_flip_8 : decode cX6_flip 8 = .ok (.sipush 999, 3) := by decide +kernel
theorem dX6_flip_11 : decode cX6_flip 11 = .ok (.invokestatic 65, 3) := by decide +kernel
theorem dX6_flip_14 : decode cX6_flip 14 = .ok (.ifCond .ne 10, 3) := by decide +kernel
theorem dX6_flip_17 : decode cX6_flip 17 = .ok (.aload_n 0, 1) := by decide +kernel
theorem dX6_flip_18 : decode cX6_flip 18 = .ok (.ldc 69, 2) := by decide +kernel
theorem dX6_flip_20 : decode cX6_flip 20 = .ok (.invokevirtual 70, 3) := by decide +kernel
theorem dX6_flip_23 : decode cX6_flip 23 = .ok (.ireturn, 1) := by decide +kernel
theorem dX6_flip_24 : decode cX6_flip 24 = .ok (.aload_n 0, 1) := by decide +kernel
theorem dX6_flip_25 : decode cX6_flip 25 = .ok (.getfield 50, 3) := by decide +kernel
theorem dX6_flip_28 : decode cX6_flip 28 = .ok (.invokevirtual 203, 3) := by decide +kernel
theorem dX6_flip_31 : decode cX6_flip 31 = .ok (.aload_n 0, 1) := by decide +kernel
theorem dX6_flip_32 : decode cX6_flip 32 = .ok (.getfield 50, 3) := by decide +kernel
theorem dX6_flip_35 : decode cX6_flip 35 = .ok (.iload_n 2, 1) := by decide +kernel
theorem dX6_flip_36 : decode cX6_flip 36 = .ok (.invokevirtual 206, 3) := by decide +kernel
theorem dX6_flip_39 : decode cX6_flip 39 = .ok (.aload_n 0, 1) := by decide +kernel
theorem dX6_flip_40 : decode cX6_flip 40 = .ok (.getfield 50, 3) := by decide +kernel
theorem dX6_flip_43 : decode cX6_flip 43 = .ok (.aload_n 0, 1) := by decide +kernel
theorem dX6_flip_44 : decode cX6_flip 44 = .ok (.getfield 12, 3) := by decide +kernel
theorem dX6_flip_47 : decode cX6_flip 47 = .ok (.aload_n 0, 1) := by decide +kernel
theorem dX6_flip_48 : decode cX6_flip 48 = .ok (.getfield 12, 3) := by decide +kernel
theorem dX6_flip_51 : decode cX6_flip 51 = .ok (.iload_n 1, 1) := by decide +kernel
theorem dX6_flip_52 : decode cX6_flip 52 = .ok (.invokevirtual 127, 3) := by decide +kernel
theorem dX6_flip_55 : decode cX6_flip 55 = .ok (.invokevirtual 209, 3) := by decide +kernel
theorem dX6_flip_58 : decode cX6_flip 58 = .ok (.istore_n 3, 1) := by decide +kernel
theorem dX6_flip_59 : decode cX6_flip 59 = .ok (.iload_n 3, 1) := by decide +kernel
theorem dX6_flip_60 : decode cX6_flip 60 = .ok (.ifCond .lt 7, 3) := by decide +kernel
theorem dX6_flip_63 : decode cX6_flip 63 = .ok (.iload_n 3, 1) := by decide +kernel
theorem dX6_flip_64 : decode cX6_flip 64 = .ok (.goto 9, 3) := by decide +kernel
theorem dX6_flip_67 : decode cX6_flip 67 = .ok (.aload_n 0, 1) := by decide +kernel
theorem dX6_flip_68 : decode cX6_flip 68 = .ok (.ldc 161, 2) := by decide +kernel
theorem dX6_flip_70 : decode cX6_flip 70 = .ok (.invokevirtual 70, 3) := by decide +kernel
theorem dX6_flip_73 : decode cX6_flip 73 = .ok (.ireturn, 1) := by decide +kernel
theorem dX6_highest_0 : decode cX6_highest 0 = .ok (.iload_n 1, 1) := by decide +kernel
theorem dX6_highest_1 : decode cX6_highest 1 = .ok (.invokestatic 124, 3) := by decide +kernel
theorem dX6_highest_4 : decode cX6_highest 4 = .ok (.ifCond .ne 10, 3) := by decide +kernel
theorem dX6_highest_7 : decode cX6_highest 7 = .ok (.aload_n 0, 1) := by decide +kernel
theorem dX6_highest_8 : decode cX6_highest 8 = .ok (.ldc 69, 2) := by decide +kernel
theorem dX6_highest_10 : decode cX6_highest 10 = .ok (.invokevirtual 70, 3) := by decide +kernel
theorem dX6_highest_13 : decode cX6_highest 13 = .ok (.ireturn, 1) := by decide +kernel
theorem dX6_highest_14 : decode cX6_highest 14 = .ok (.iconst 0, 1) := by decide +kernel
theorem dX6_highest_15 : decode cX6_highest 15 = .ok (.istore_n 2, 1) := by decide +kernel
theorem dX6_highest_16 : decode cX6_highest 16 = .ok (.iconst 0, 1) := by decide +kernel
theorem dX6_highest_17 : decode cX6_highest 17 = .ok (.istore_n 3, 1) := by decide +kernel
theorem dX6_highest_18 : decode cX6_highest 18 = .ok (.iload_n 3, 1) := by decide +kernel
theorem dX6_highest_19 : decode cX6_highest 19 = .ok (.aload_n 0, 1) := by decide +kernel
theorem dX6_highest_20 : decode cX6_highest 20 = .ok (.getfield 12, 3) := by decide +kernel
theorem dX6_highest_23 : decode cX6_highest 23 = .ok (.getfield 74, 3) := by decide +kernel
theorem dX6_highest_26 : decode cX6_highest 26 = .ok (.if_icmp .ge 45, 3) := by decide +kernel
theorem dX6_highest_29 : decode cX6_highest 29 = .ok (.aload_n 0, 1) := by decide +kernel
theorem dX6_highest_30 : decode cX6_highest 30 = .ok (.getfield 12, 3) := by decide +kernel
theorem dX6_highest_33 : decode cX6_highest 33 = .ok (.getfield 86, 3) := by decide +kernel
theorem dX6_highest_36 : decode cX6_highest 36 = .ok (.iload_n 3, 1) := by decide +kernel
theorem dX6_highest_37 : decode cX6_highest 37 = .ok (.aaload, 1) := by decide +kernel
theorem dX6_highest_38 : decode cX6_highest 38 = .ok (.astore 4, 2) := by decide +kernel
theorem dX6_highest_40 : decode cX6_highest 40 = .ok (.aload 4, 2) := by decide +kernel
theorem dX6_highest_42 : decode cX6_highest 42 = .ok (.getfield 95, 3) := by decide +kernel
theorem dX6_highest_45 : decode cX6_highest 45 = .ok (.iload_n 1, 1) := by decide +kernel
theorem dX6_highest_46 : decode cX6_highest 46 = .ok (.if_icmp .ne 19, 3) := by decide +kernel
theorem dX6_highest_49 : decode cX6_highest 49 = .ok (.iload_n 2, 1) := by decide +kernel
theorem dX6_highest_50 : decode cX6_highest 50 = .ok (.aload 4, 2) := by decide +kernel
theorem dX6_highest_52 : decode cX6_highest 52 = .ok (.invokevirtual 110, 3) := by decide +kernel
theorem dX6_highest_55 : decode cX6_highest 55 = .ok (.aload 4, 2) := by decide +kernel
theorem dX6_highest_57 : decode cX6_highest 57 = .ok (.invokevirtual 213, 3) := by decide +kernel
theorem dX6_highest_60 : decode cX6_highest 60 = .ok (.invokestatic 216, 3) := by decide +kernel
theorem dX6_highest_63 : decode cX6_highest 63 = .ok (.iadd, 1) := by decide +kernel
theorem dX6_highest_64 : decode cX6_highest 64 = .ok (.istore_n 2, 1) := by decide +kernel
theorem dX6_highest_65 : decode cX6_highest 65 = .ok (.iinc 3 1, 3) := by decide +kernel
theorem dX6_highest_68 : decode cX6_highest 68 = .ok (.goto (-50), 3) := by decide +kernel
theorem dX6_highest_71 : decode cX6_highest 71 = .ok (.iload_n 2, 1) := by decide +kernel
theorem dX6_highest_72 : decode cX6_highest 72 = .ok (.ireturn, 1) := by decide +kernel
theorem dX6_wrong_0 : decode cX6_wrong 0 = .ok (.iconst 0, 1) := by decide +kernel
theorem dX6_wrong_1 : decode cX6_wrong 1 = .ok (.istore_n 1, 1) := by decide +kernel
theorem dX6_wrong_2 : decode cX6_wrong 2 = .ok (.iconst 0, 1) := by decide +kernel
theorem dX6_wrong_3 : decode cX6_wrong 3 = .ok (.istore_n 2, 1) := by decide +kernel
theorem dX6_wrong_4 : decode cX6_wrong 4 = .ok (.iload_n 2, 1) := by decide +kernel
theorem dX6_wrong_5 : decode cX6_wrong 5 = .ok (.aload_n 0, 1) := by decide +kernel
theorem dX6_wrong_6 : decode cX6_wrong 6 = .ok (.getfield 12, 3) := by decide +kernel
theorem dX6_wrong_9 : decode cX6_wrong 9 = .ok (.getfield 74, 3) := by decide +kernel
theorem dX6_wrong_12 : decode cX6_wrong 12 = .ok (.if_icmp .ge 42, 3) := by decide +kernel
theorem dX6_wrong_15 : decode cX6_wrong 15 = .ok (.aload_n 0, 1) := by decide +kernel
theorem dX6_wrong_16 : decode cX6_wrong 16 = .ok (.getfield 12, 3) := by decide +kernel
theorem dX6_wrong_19 : decode cX6_wrong 19 = .ok (.getfield 86, 3) := by decide +kernel
theorem dX6_wrong_22 : decode cX6_wrong 22 = .ok (.iload_n 2, 1) := by decide +kernel
theorem dX6_wrong_23 : decode cX6_wrong 23 = .ok (.aaload, 1) := by decide +kernel
theorem dX6_wrong_24 : decode cX6_wrong 24 = .ok (.invokevirtual 213, 3) := by decide +kernel
theorem dX6_wrong_27 : decode cX6_wrong 27 = .ok (.aload_n 0, 1) := by decide +kernel
theorem dX6_wrong_28 : decode cX6_wrong 28 = .ok (.getfield 12, 3) := by decide +kernel
theorem dX6_wrong_31 : decode cX6_wrong 31 = .ok (.getfield 86, 3) := by decide +kernel
theorem dX6_wrong_34 : decode cX6_wrong 34 = .ok (.iload_n 2, 1) := by decide +kernel
theorem dX6_wrong_35 : decode cX6_wrong 35 = .ok (.aaload, 1) := by decide +kernel
theorem dX6_wrong_36 : decode cX6_wrong 36 = .ok (.invokevirtual 110, 3) := by decide +kernel
theorem dX6_wrong_39 : decode cX6_wrong 39 = .ok (.if_icmp .le 9, 3) := by decide +kernel
theorem dX6_wrong_42 : decode cX6_wrong 42 = .ok (.iload_n 1, 1) := by decide +kernel
theorem dX6_wrong_43 : decode cX6_wrong 43 = .ok (.iconst 1, 1) := by decide +kernel
theorem dX6_wrong_44 : decode cX6_wrong 44 = .ok (.iload_n 2, 1) := by decide +kernel
theorem dX6_wrong_45 : decode cX6_wrong 45 = .ok (.ishl, 1) := by decide +kernel
theorem dX6_wrong_46 : decode cX6_wrong 46 = .ok (.ior, 1) := by decide +kernel
theorem dX6_wrong_47 : decode cX6_wrong 47 = .ok (.istore_n 1, 1) := by decide +kernel
theorem dX6_wrong_48 : decode cX6_wrong 48 = .ok (.iinc 2 1, 3) := by decide +kernel
theorem dX6_wrong_51 : decode cX6_wrong 51 = .ok (.goto (-47), 3) := by decide +kernel
theorem dX6_wrong_54 : decode cX6_wrong 54 = .ok (.iload_n 1, 1) := by decide +kernel
theorem dX6_wrong_55 : decode cX6_wrong 55 = .ok (.ireturn, 1) := by decide +kernel
theorem dX6_ways_0 : decode cX6_ways 0 = .ok (.iload_n 1, 1) := by decide +kernel
theorem dX6_ways_1 : decode cX6_ways 1 = .ok (.invokestatic 124, 3) := by decide +kernel
theorem dX6_ways_4 : decode cX6_ways 4 = .ok (.ifCond .eq 13, 3) := by decide +kernel
theorem dX6_ways_7 : decode cX6_ways 7 = .ok (.iload_n 2, 1) := by decide +kernel
theorem dX6_ways_8 : decode cX6_ways 8 = .ok (.sipush 9999, 3) := by decide +kernel
theorem dX6_ways_11 : decode cX6_ways 11 = .ok (.invokestatic 65, 3) := by decide +kernel
theorem dX6_ways_14 : decode cX6_ways 14 = .ok (.ifCond .ne 10, 3) := by decide +kernel
theorem dX6_ways_17 : decode cX6_ways 17 = .ok (.aload_n 0, 1) := by decide +kernel
theorem dX6_ways_18 : decode cX6_ways 18 = .ok (.ldc 69, 2) := by decide +kernel
theorem dX6_ways_20 : decode cX6_ways 20 = .ok (.invokevirtual 70, 3) := by decide +kernel
theorem dX6_ways_23 : decode cX6_ways 23 = .ok (.ireturn, 1) := by decide +kernel
theorem dX6_ways_24 : decode cX6_ways 24 = .ok (.aload_n 0, 1) := by decide +kernel
theorem dX6_ways_25 : decode cX6_ways 25 = .ok (.getfield 57, 3) := by decide +kernel
theorem dX6_ways_28 : decode cX6_ways 28 = .ok (.aload_n 0, 1) := by decide +kernel
theorem dX6_ways_29 : decode cX6_ways 29 = .ok (.getfield 12, 3) := by decide +kernel
theorem dX6_ways_32 : decode cX6_ways 32 = .ok (.aload_n 0, 1) := by decide +kernel
theorem dX6_ways_33 : decode cX6_ways 33 = .ok (.getfield 12, 3) := by decide +kernel
theorem dX6_ways_36 : decode cX6_ways 36 = .ok (.iload_n 1, 1) := by decide +kernel
theorem dX6_ways_37 : decode cX6_ways 37 = .ok (.invokevirtual 127, 3) := by decide +kernel
theorem dX6_ways_40 : decode cX6_ways 40 = .ok (.iload_n 2, 1) := by decide +kernel
theorem dX6_ways_41 : decode cX6_ways 41 = .ok (.invokevirtual 221, 3) := by decide +kernel
theorem dX6_ways_44 : decode cX6_ways 44 = .ok (.ireturn, 1) := by decide +kernel
theorem dX6_kindFor_0 : decode cX6_kindFor 0 = .ok (.aload_n 0, 1) := by decide +kernel
theorem dX6_kindFor_1 : decode cX6_kindFor 1 = .ok (.getfield 12, 3) := by decide +kernel
theorem dX6_kindFor_4 : decode cX6_kindFor 4 = .ok (.iload_n 1, 1) := by decide +kernel
theorem dX6_kindFor_5 : decode cX6_kindFor 5 = .ok (.invokevirtual 82, 3) := by decide +kernel
theorem dX6_kindFor_8 : decode cX6_kindFor 8 = .ok (.ifCond .ne 10, 3) := by decide +kernel
theorem dX6_kindFor_11 : decode cX6_kindFor 11 = .ok (.aload_n 0, 1) := by decide +kernel
theorem dX6_kindFor_12 : decode cX6_kindFor 12 = .ok (.ldc 69, 2) := by decide +kernel
theorem dX6_kindFor_14 : decode cX6_kindFor 14 = .ok (.invokevirtual 70, 3) := by decide +kernel
theorem dX6_kindFor_17 : decode cX6_kindFor 17 = .ok (.ireturn, 1) := by decide +kernel
theorem dX6_kindFor_18 : decode cX6_kindFor 18 = .ok (.aload_n 0, 1) := by decide +kernel
theorem dX6_kindFor_19 : decode cX6_kindFor 19 = .ok (.getfield 12, 3) := by decide +kernel
theorem dX6_kindFor_22 : decode cX6_kindFor 22 = .ok (.getfield 86, 3) := by decide +kernel
theorem dX6_kindFor_25 : decode cX6_kindFor 25 = .ok (.iload_n 1, 1) := by decide +kernel
theorem dX6_kindFor_26 : decode cX6_kindFor 26 = .ok (.aaload, 1) := by decide +kernel
theorem dX6_kindFor_27 : decode cX6_kindFor 27 = .ok (.astore_n 2, 1) := by decide +kernel
theorem dX6_kindFor_28 : decode cX6_kindFor 28 = .ok (.iconst 0, 1) := by decide +kernel
theorem dX6_kindFor_29 : decode cX6_kindFor 29 = .ok (.istore_n 3, 1) := by decide +kernel
theorem dX6_kindFor_30 : decode cX6_kindFor 30 = .ok (.iconst 1, 1) := by decide +kernel
theorem dX6_kindFor_31 : decode cX6_kindFor 31 = .ok (.istore 4, 2) := by decide +kernel
theorem dX6_kindFor_33 : decode cX6_kindFor 33 = .ok (.iload 4, 2) := by decide +kernel
theorem dX6_kindFor_35 : decode cX6_kindFor 35 = .ok (.bipush 7, 2) := by decide +kernel
theorem dX6_kindFor_37 : decode cX6_kindFor 37 = .ok (.if_icmp .ge 26, 3) := by decide +kernel
theorem dX6_kindFor_40 : decode cX6_kindFor 40 = .ok (.aload_n 2, 1) := by decide +kernel
theorem dX6_kindFor_41 : decode cX6_kindFor 41 = .ok (.iload 4, 2) := by decide +kernel
theorem dX6_kindFor_43 : decode cX6_kindFor 43 = .ok (.invokevirtual 224, 3) := by decide +kernel
theorem dX6_kindFor_46 : decode cX6_kindFor 46 = .ok (.aload_n 2, 1) := by decide +kernel
theorem dX6_kindFor_47 : decode cX6_kindFor 47 = .ok (.iload_n 3, 1) := by decide +kernel
theorem dX6_kindFor_48 : decode cX6_kindFor 48 = .ok (.invokevirtual 224, 3) := by decide +kernel
theorem dX6_kindFor_51 : decode cX6_kindFor 51 = .ok (.if_icmp .le 6, 3) := by decide +kernel
theorem dX6_kindFor_54 : decode cX6_kindFor 54 = .ok (.iload 4, 2) := by decide +kernel
theorem dX6_kindFor_56 : decode cX6_kindFor 56 = .ok (.istore_n 3, 1) := by decide +kernel
theorem dX6_kindFor_57 : decode cX6_kindFor 57 = .ok (.iinc 4 1, 3) := by decide +kernel
theorem dX6_kindFor_60 : decode cX6_kindFor 60 = .ok (.goto (-27), 3) := by decide +kernel
theorem dX6_kindFor_63 : decode cX6_kindFor 63 = .ok (.iload_n 3, 1) := by decide +kernel
theorem dX6_kindFor_64 : decode cX6_kindFor 64 = .ok (.ireturn, 1) := by decide +kernel
theorem dX6_days_0 : decode cX6_days 0 = .ok (.iload_n 1, 1) := by decide +kernel
theorem dX6_days_1 : decode cX6_days 1 = .ok (.iconst 1, 1) := by decide +kernel
theorem dX6_days_2 : decode cX6_days 2 = .ok (.if_icmp .lt 9, 3) := by decide +kernel
theorem dX6_days_5 : decode cX6_days 5 = .ok (.iload_n 1, 1) := by decide +kernel
theorem dX6_days_6 : decode cX6_days 6 = .ok (.bipush 60, 2) := by decide +kernel
theorem dX6_days_8 : decode cX6_days 8 = .ok (.if_icmp .le 10, 3) := by decide +kernel
theorem dX6_days_11 : decode cX6_days 11 = .ok (.aload_n 0, 1) := by decide +kernel
theorem dX6_days_12 : decode cX6_days 12 = .ok (.ldc 69, 2) := by decide +kernel
theorem dX6_days_14 : decode cX6_days 14 = .ok (.invokevirtual 70, 3) := by decide +kernel
theorem dX6_days_17 : decode cX6_days 17 = .ok (.ireturn, 1) := by decide +kernel
theorem dX6_days_18 : decode cX6_days 18 = .ok (.aload_n 0, 1) := by decide +kernel
theorem dX6_days_19 : decode cX6_days 19 = .ok (.getfield 12, 3) := by decide +kernel
theorem dX6_days_22 : decode cX6_days 22 = .ok (.getfield 227, 3) := by decide +kernel
theorem dX6_days_25 : decode cX6_days 25 = .ok (.iload_n 1, 1) := by decide +kernel
theorem dX6_days_26 : decode cX6_days 26 = .ok (.iadd, 1) := by decide +kernel
theorem dX6_days_27 : decode cX6_days 27 = .ok (.sipush 999, 3) := by decide +kernel
theorem dX6_days_30 : decode cX6_days 30 = .ok (.if_icmp .le 10, 3) := by decide +kernel
theorem dX6_days_33 : decode cX6_days 33 = .ok (.aload_n 0, 1) := by decide +kernel
theorem dX6_days_34 : decode cX6_days 34 = .ok (.ldc 145, 2) := by decide +kernel
theorem dX6_days_36 : decode cX6_days 36 = .ok (.invokevirtual 70, 3) := by decide +kernel
theorem dX6_days_39 : decode cX6_days 39 = .ok (.ireturn, 1) := by decide +kernel
theorem dX6_days_40 : decode cX6_days 40 = .ok (.aload_n 0, 1) := by decide +kernel
theorem dX6_days_41 : decode cX6_days 41 = .ok (.getfield 12, 3) := by decide +kernel
theorem dX6_days_44 : decode cX6_days 44 = .ok (.iload_n 1, 1) := by decide +kernel
theorem dX6_days_45 : decode cX6_days 45 = .ok (.invokevirtual 230, 3) := by decide +kernel
theorem dX6_days_48 : decode cX6_days 48 = .ok (.ireturn, 1) := by decide +kernel
theorem dX6_ahead_0 : decode cX6_ahead 0 = .ok (.iload_n 1, 1) := by decide +kernel
theorem dX6_ahead_1 : decode cX6_ahead 1 = .ok (.invokestatic 124, 3) := by decide +kernel
theorem dX6_ahead_4 : decode cX6_ahead 4 = .ok (.ifCond .eq 12, 3) := by decide +kernel
theorem dX6_ahead_7 : decode cX6_ahead 7 = .ok (.iload_n 2, 1) := by decide +kernel
theorem dX6_ahead_8 : decode cX6_ahead 8 = .ok (.bipush 60, 2) := by decide +kernel
theorem dX6_ahead_10 : decode cX6_ahead 10 = .ok (.invokestatic 65, 3) := by decide +kernel
theorem dX6_ahead_13 : decode cX6_ahead 13 = .ok (.ifCond .ne 10, 3) := by decide +kernel
theorem dX6_ahead_16 : decode cX6_ahead 16 = .ok (.aload_n 0, 1) := by decide +kernel
theorem dX6_ahead_17 : decode cX6_ahead 17 = .ok (.ldc 69, 2) := by decide +kernel
theorem dX6_ahead_19 : decode cX6_ahead 19 = .ok (.invokevirtual 70, 3) := by decide +kernel
theorem dX6_ahead_22 : decode cX6_ahead 22 = .ok (.ireturn, 1) := by decide +kernel
theorem dX6_ahead_23 : decode cX6_ahead 23 = .ok (.aload_n 0, 1) := by decide +kernel
theorem dX6_ahead_24 : decode cX6_ahead 24 = .ok (.getfield 12, 3) := by decide +kernel
theorem dX6_ahead_27 : decode cX6_ahead 27 = .ok (.getfield 227, 3) := by decide +kernel
theorem dX6_ahead_30 : decode cX6_ahead 30 = .ok (.iload_n 2, 1) := by decide +kernel
theorem dX6_ahead_31 : decode cX6_ahead 31 = .ok (.iadd, 1) := by decide +kernel
theorem dX6_ahead_32 : decode cX6_ahead 32 = .ok (.sipush 999, 3) := by decide +kernel
theorem dX6_ahead_35 : decode cX6_ahead 35 = .ok (.if_icmp .le 10, 3) := by decide +kernel
theorem dX6_ahead_38 : decode cX6_ahead 38 = .ok (.aload_n 0, 1) := by decide +kernel
theorem dX6_ahead_39 : decode cX6_ahead 39 = .ok (.ldc 145, 2) := by decide +kernel
theorem dX6_ahead_41 : decode cX6_ahead 41 = .ok (.invokevirtual 70, 3) := by decide +kernel
theorem dX6_ahead_44 : decode cX6_ahead 44 = .ok (.ireturn, 1) := by decide +kernel
theorem dX6_ahead_45 : decode cX6_ahead 45 = .ok (.aload_n 0, 1) := by decide +kernel
theorem dX6_ahead_46 : decode cX6_ahead 46 = .ok (.getfield 16, 3) := by decide +kernel
theorem dX6_ahead_49 : decode cX6_ahead 49 = .ok (.aload_n 0, 1) := by decide +kernel
theorem dX6_ahead_50 : decode cX6_ahead 50 = .ok (.getfield 12, 3) := by decide +kernel
theorem dX6_ahead_53 : decode cX6_ahead 53 = .ok (.invokevirtual 191, 3) := by decide +kernel
theorem dX6_ahead_56 : decode cX6_ahead 56 = .ok (.aload_n 0, 1) := by decide +kernel
theorem dX6_ahead_57 : decode cX6_ahead 57 = .ok (.getfield 16, 3) := by decide +kernel
theorem dX6_ahead_60 : decode cX6_ahead 60 = .ok (.iload_n 2, 1) := by decide +kernel
theorem dX6_ahead_61 : decode cX6_ahead 61 = .ok (.invokevirtual 230, 3) := by decide +kernel
theorem dX6_ahead_64 : decode cX6_ahead 64 = .ok (.pop, 1) := by decide +kernel
theorem dX6_ahead_65 : decode cX6_ahead 65 = .ok (.aload_n 0, 1) := by decide +kernel
theorem dX6_ahead_66 : decode cX6_ahead 66 = .ok (.getfield 16, 3) := by decide +kernel
theorem dX6_ahead_69 : decode cX6_ahead 69 = .ok (.aload_n 0, 1) := by decide +kernel
theorem dX6_ahead_70 : decode cX6_ahead 70 = .ok (.getfield 16, 3) := by decide +kernel
theorem dX6_ahead_73 : decode cX6_ahead 73 = .ok (.iload_n 1, 1) := by decide +kernel
theorem dX6_ahead_74 : decode cX6_ahead 74 = .ok (.invokevirtual 127, 3) := by decide +kernel
theorem dX6_ahead_77 : decode cX6_ahead 77 = .ok (.invokevirtual 130, 3) := by decide +kernel
theorem dX6_ahead_80 : decode cX6_ahead 80 = .ok (.ireturn, 1) := by decide +kernel
theorem dX6_market_0 : decode cX6_market 0 = .ok (.iload_n 1, 1) := by decide +kernel
theorem dX6_market_1 : decode cX6_market 1 = .ok (.iconst 1, 1) := by decide +kernel
theorem dX6_market_2 : decode cX6_market 2 = .ok (.if_icmp .lt 9, 3) := by decide +kernel
theorem dX6_market_5 : decode cX6_market 5 = .ok (.iload_n 1, 1) := by decide +kernel
theorem dX6_market_6 : decode cX6_market 6 = .ok (.bipush 12, 2) := by decide +kernel
theorem dX6_market_8 : decode cX6_market 8 = .ok (.if_icmp .le 10, 3) := by decide +kernel
theorem dX6_market_11 : decode cX6_market 11 = .ok (.aload_n 0, 1) := by decide +kernel
theorem dX6_market_12 : decode cX6_market 12 = .ok (.ldc 69, 2) := by decide +kernel
theorem dX6_market_14 : decode cX6_market 14 = .ok (.invokevirtual 70, 3) := by decide +kernel
theorem dX6_market_17 : decode cX6_market 17 = .ok (.ireturn, 1) := by decide +kernel
theorem dX6_market_18 : decode cX6_market 18 = .ok (.aload_n 0, 1) := by decide +kernel
theorem dX6_market_19 : decode cX6_market 19 = .ok (.getfield 12, 3) := by decide +kernel
theorem dX6_market_22 : decode cX6_market 22 = .ok (.getfield 74, 3) := by decide +kernel
theorem dX6_market_25 : decode cX6_market 25 = .ok (.ifCond .gt 10, 3) := by decide +kernel
theorem dX6_market_28 : decode cX6_market 28 = .ok (.aload_n 0, 1) := by decide +kernel
theorem dX6_market_29 : decode cX6_market 29 = .ok (.ldc 145, 2) := by decide +kernel
theorem dX6_market_31 : decode cX6_market 31 = .ok (.invokevirtual 70, 3) := by decide +kernel
theorem dX6_market_34 : decode cX6_market 34 = .ok (.ireturn, 1) := by decide +kernel
theorem dX6_market_35 : decode cX6_market 35 = .ok (.iconst 0, 1) := by decide +kernel
theorem dX6_market_36 : decode cX6_market 36 = .ok (.istore_n 2, 1) := by decide +kernel
theorem dX6_market_37 : decode cX6_market 37 = .ok (.iload_n 2, 1) := by decide +kernel
theorem dX6_market_38 : decode cX6_market 38 = .ok (.iload_n 1, 1) := by decide +kernel
theorem dX6_market_39 : decode cX6_market 39 = .ok (.if_icmp .ge 59, 3) := by decide +kernel
theorem dX6_market_42 : decode cX6_market 42 = .ok (.aload_n 0, 1) := by decide +kernel
theorem dX6_market_43 : decode cX6_market 43 = .ok (.getfield 12, 3) := by decide +kernel
theorem dX6_market_46 : decode cX6_market 46 = .ok (.getfield 86, 3) := by decide +kernel
theorem dX6_market_49 : decode cX6_market 49 = .ok (.aload_n 0, 1) := by decide +kernel
theorem dX6_market_50 : decode cX6_market 50 = .ok (.getfield 12, 3) := by decide +kernel
theorem dX6_market_53 : decode cX6_market 53 = .ok (.invokevirtual 233, 3) := by decide +kernel
theorem dX6_market_56 : decode cX6_market 56 = .ok (.aload_n 0, 1) := by decide +kernel
theorem dX6_market_57 : decode cX6_market 57 = .ok (.getfield 12, 3) := by decide +kernel
theorem dX6_market_60 : decode cX6_market 60 = .ok (.getfield 74, 3) := by decide +kernel
theorem dX6_market_63 : decode cX6_market 63 = .ok (.irem, 1) := by decide +kernel
theorem dX6_market_64 : decode cX6_market 64 = .ok (.aaload, 1) := by decide +kernel
theorem dX6_market_65 : decode cX6_market 65 = .ok (.astore_n 3, 1) := by decide +kernel
theorem dX6_market_66 : decode cX6_market 66 = .ok (.aload_n 0, 1) := by decide +kernel
theorem dX6_market_67 : decode cX6_market 67 = .ok (.getfield 12, 3) := by decide +kernel
theorem dX6_market_70 : decode cX6_market 70 = .ok (.invokevirtual 233, 3) := by decide +kernel
theorem dX6_market_73 : decode cX6_market 73 = .ok (.iconst 4, 1) := by decide +kernel
theorem dX6_market_74 : decode cX6_market 74 = .ok (.irem, 1) := by decide +kernel
theorem dX6_market_75 : decode cX6_market 75 = .ok (.istore 4, 2) := by decide +kernel
theorem dX6_market_77 : decode cX6_market 77 = .ok (.aload_n 3, 1) := by decide +kernel
theorem dX6_market_78 : decode cX6_market 78 = .ok (.getfield 95, 3) := by decide +kernel
theorem dX6_market_81 : decode cX6_market 81 = .ok (.iload 4, 2) := by decide +kernel
theorem dX6_market_83 : decode cX6_market 83 = .ok (.if_icmp .eq 9, 3) := by decide +kernel
theorem dX6_market_86 : decode cX6_market 86 = .ok (.aload_n 3, 1) := by decide +kernel
theorem dX6_market_87 : decode cX6_market 87 = .ok (.iload 4, 2) := by decide +kernel
theorem dX6_market_89 : decode cX6_market 89 = .ok (.invokevirtual 199, 3) := by decide +kernel
theorem dX6_market_92 : decode cX6_market 92 = .ok (.iinc 2 1, 3) := by decide +kernel
theorem dX6_market_95 : decode cX6_market 95 = .ok (.goto (-58), 3) := by decide +kernel
theorem dX6_market_98 : decode cX6_market 98 = .ok (.aload_n 0, 1) := by decide +kernel
theorem dX6_market_99 : decode cX6_market 99 = .ok (.getfield 12, 3) := by decide +kernel
theorem dX6_market_102 : decode cX6_market 102 = .ok (.aload_n 0, 1) := by decide +kernel
theorem dX6_market_103 : decode cX6_market 103 = .ok (.getfield 12, 3) := by decide +kernel
theorem dX6_market_106 : decode cX6_market 106 = .ok (.iconst 0, 1) := by decide +kernel
theorem dX6_market_107 : decode cX6_market 107 = .ok (.invokevirtual 127, 3) := by decide +kernel
theorem dX6_market_110 : decode cX6_market 110 = .ok (.invokevirtual 130, 3) := by decide +kernel
theorem dX6_market_113 : decode cX6_market 113 = .ok (.ireturn, 1) := by decide +kernel
theorem dX6_toss_0 : decode cX6_toss 0 = .ok (.aload_n 0, 1) := by decide +kernel
theorem dX6_toss_1 : decode cX6_toss 1 = .ok (.getfield 12, 3) := by decide +kernel
theorem dX6_toss_4 : decode cX6_toss 4 = .ok (.iload_n 1, 1) := by decide +kernel
theorem dX6_toss_5 : decode cX6_toss 5 = .ok (.invokevirtual 139, 3) := by decide +kernel
theorem dX6_toss_8 : decode cX6_toss 8 = .ok (.ifCond .eq 12, 3) := by decide +kernel
theorem dX6_toss_11 : decode cX6_toss 11 = .ok (.iload_n 2, 1) := by decide +kernel
theorem dX6_toss_12 : decode cX6_toss 12 = .ok (.bipush 20, 2) := by decide +kernel
theorem dX6_toss_14 : decode cX6_toss 14 = .ok (.invokestatic 65, 3) := by decide +kernel
theorem dX6_toss_17 : decode cX6_toss 17 = .ok (.ifCond .ne 10, 3) := by decide +kernel
theorem dX6_toss_20 : decode cX6_toss 20 = .ok (.aload_n 0, 1) := by decide +kernel
theorem dX6_toss_21 : decode cX6_toss 21 = .ok (.ldc 69, 2) := by decide +kernel
theorem dX6_toss_23 : decode cX6_toss 23 = .ok (.invokevirtual 70, 3) := by decide +kernel
theorem dX6_toss_26 : decode cX6_toss 26 = .ok (.ireturn, 1) := by decide +kernel
theorem dX6_toss_27 : decode cX6_toss 27 = .ok (.iload_n 2, 1) := by decide +kernel
theorem dX6_toss_28 : decode cX6_toss 28 = .ok (.iload_n 1, 1) := by decide +kernel
theorem dX6_toss_29 : decode cX6_toss 29 = .ok (.invokestatic 236, 3) := by decide +kernel
theorem dX6_toss_32 : decode cX6_toss 32 = .ok (.imul, 1) := by decide +kernel
theorem dX6_toss_33 : decode cX6_toss 33 = .ok (.istore_n 3, 1) := by decide +kernel
theorem dX6_toss_34 : decode cX6_toss 34 = .ok (.iconst 0, 1) := by decide +kernel
theorem dX6_toss_35 : decode cX6_toss 35 = .ok (.istore 4, 2) := by decide +kernel
theorem dX6_toss_37 : decode cX6_toss 37 = .ok (.iconst 0, 1) := by decide +kernel
theorem dX6_toss_38 : decode cX6_toss 38 = .ok (.istore 5, 2) := by decide +kernel
theorem dX6_toss_40 : decode cX6_toss 40 = .ok (.iload 5, 2) := by decide +kernel
theorem dX6_toss_42 : decode cX6_toss 42 = .ok (.iload_n 3, 1) := by decide +kernel
theorem dX6_toss_43 : decode cX6_toss 43 = .ok (.if_icmp .ge 24, 3) := by decide +kernel
theorem dX6_toss_46 : decode cX6_toss 46 = .ok (.aload_n 0, 1) := by decide +kernel
theorem dX6_toss_47 : decode cX6_toss 47 = .ok (.getfield 12, 3) := by decide +kernel
theorem dX6_toss_50 : decode cX6_toss 50 = .ok (.invokevirtual 233, 3) := by decide +kernel
theorem dX6_toss_53 : decode cX6_toss 53 = .ok (.iconst 2, 1) := by decide +kernel
theorem dX6_toss_54 : decode cX6_toss 54 = .ok (.irem, 1) := by decide +kernel
theorem dX6_toss_55 : decode cX6_toss 55 = .ok (.ifCond .ne 6, 3) := by decide +kernel
theorem dX6_toss_58 : decode cX6_toss 58 = .ok (.iinc 4 1, 3) := by decide +kernel
theorem dX6_toss_61 : decode cX6_toss 61 = .ok (.iinc 5 1, 3) := by decide +kernel
theorem dX6_toss_64 : decode cX6_toss 64 = .ok (.goto (-24), 3) := by decide +kernel
theorem dX6_toss_67 : decode cX6_toss 67 = .ok (.iload 4, 2) := by decide +kernel
theorem dX6_toss_69 : decode cX6_toss 69 = .ok (.ireturn, 1) := by decide +kernel
theorem dX6_seed_0 : decode cX6_seed 0 = .ok (.aload_n 0, 1) := by decide +kernel
theorem dX6_seed_1 : decode cX6_seed 1 = .ok (.getfield 12, 3) := by decide +kernel
theorem dX6_seed_4 : decode cX6_seed 4 = .ok (.getfield 241, 3) := by decide +kernel
theorem dX6_seed_7 : decode cX6_seed 7 = .ok (.istore_n 2, 1) := by decide +kernel
theorem dX6_seed_8 : decode cX6_seed 8 = .ok (.aload_n 0, 1) := by decide +kernel
theorem dX6_seed_9 : decode cX6_seed 9 = .ok (.getfield 12, 3) := by decide +kernel
theorem dX6_seed_12 : decode cX6_seed 12 = .ok (.iload_n 1, 1) := by decide +kernel
theorem dX6_seed_13 : decode cX6_seed 13 = .ok (.putfield 241, 3) := by decide +kernel
theorem dX6_seed_16 : decode cX6_seed 16 = .ok (.iload_n 2, 1) := by decide +kernel
theorem dX6_seed_17 : decode cX6_seed 17 = .ok (.ireturn, 1) := by decide +kernel
theorem dX6_feed_0 : decode cX6_feed 0 = .ok (.iload_n 2, 1) := by decide +kernel
theorem dX6_feed_1 : decode cX6_feed 1 = .ok (.iconst 1, 1) := by decide +kernel
theorem dX6_feed_2 : decode cX6_feed 2 = .ok (.if_icmp .lt 8, 3) := by decide +kernel
theorem dX6_feed_5 : decode cX6_feed 5 = .ok (.iload_n 2, 1) := by decide +kernel
theorem dX6_feed_6 : decode cX6_feed 6 = .ok (.iconst 4, 1) := by decide +kernel
theorem dX6_feed_7 : decode cX6_feed 7 = .ok (.if_icmp .le 10, 3) := by decide +kernel
theorem dX6_feed_10 : decode cX6_feed 10 = .ok (.aload_n 0, 1) := by decide +kernel
theorem dX6_feed_11 : decode cX6_feed 11 = .ok (.ldc 69, 2) := by decide +kernel
theorem dX6_feed_13 : decode cX6_feed 13 = .ok (.invokevirtual 70, 3) := by decide +kernel
theorem dX6_feed_16 : decode cX6_feed 16 = .ok (.ireturn, 1) := by decide +kernel
theorem dX6_feed_17 : decode cX6_feed 17 = .ok (.aload_n 0, 1) := by decide +kernel
theorem dX6_feed_18 : decode cX6_feed 18 = .ok (.getfield 30, 3) := by decide +kernel
theorem dX6_feed_21 : decode cX6_feed 21 = .ok (.iload_n 2, 1) := by decide +kernel
theorem dX6_feed_22 : decode cX6_feed 22 = .ok (.iadd, 1) := by decide +kernel
theorem dX6_feed_23 : decode cX6_feed 23 = .ok (.bipush 120, 2) := by decide +kernel
theorem dX6_feed_25 : decode cX6_feed 25 = .ok (.if_icmp .le 10, 3) := by decide +kernel
theorem dX6_feed_28 : decode cX6_feed 28 = .ok (.aload_n 0, 1) := by decide +kernel
theorem dX6_feed_29 : decode cX6_feed 29 = .ok (.ldc 77, 2) := by decide +kernel
theorem dX6_feed_31 : decode cX6_feed 31 = .ok (.invokevirtual 70, 3) := by decide +kernel
theorem dX6_feed_34 : decode cX6_feed 34 = .ok (.ireturn, 1) := by decide +kernel
theorem dX6_feed_35 : decode cX6_feed 35 = .ok (.iload_n 2, 1) := by decide +kernel
theorem dX6_feed_36 : decode cX6_feed 36 = .ok (.iconst 1, 1) := by decide +kernel
theorem dX6_feed_37 : decode cX6_feed 37 = .ok (.isub, 1) := by decide +kernel
theorem dX6_feed_38 : decode cX6_feed 38 = .ok (.istore_n 3, 1) := by decide +kernel
theorem dX6_feed_39 : decode cX6_feed 39 = .ok (.iload_n 3, 1) := by decide +kernel
theorem dX6_feed_40 : decode cX6_feed 40 = .ok (.ifCond .lt 38, 3) := by decide +kernel
theorem dX6_feed_43 : decode cX6_feed 43 = .ok (.aload_n 0, 1) := by decide +kernel
theorem dX6_feed_44 : decode cX6_feed 44 = .ok (.getfield 26, 3) := by decide +kernel
theorem dX6_feed_47 : decode cX6_feed 47 = .ok (.aload_n 0, 1) := by decide +kernel
theorem dX6_feed_48 : decode cX6_feed 48 = .ok (.getfield 30, 3) := by decide +kernel
theorem dX6_feed_51 : decode cX6_feed 51 = .ok (.iload_n 1, 1) := by decide +kernel
theorem dX6_feed_52 : decode cX6_feed 52 = .ok (.bipush 8, 2) := by decide +kernel
theorem dX6_feed_54 : decode cX6_feed 54 = .ok (.iload_n 3, 1) := by decide +kernel
theorem dX6_feed_55 : decode cX6_feed 55 = .ok (.imul, 1) := by decide +kernel
theorem dX6_feed_56 : decode cX6_feed 56 = .ok (.iushr, 1) := by decide +kernel
theorem dX6_feed_57 : decode cX6_feed 57 = .ok (.sipush 255, 3) := by decide +kernel
theorem dX6_feed_60 : decode cX6_feed 60 = .ok (.iand, 1) := by decide +kernel
theorem dX6_feed_61 : decode cX6_feed 61 = .ok (.iastore, 1) := by decide +kernel
theorem dX6_feed_62 : decode cX6_feed 62 = .ok (.aload_n 0, 1) := by decide +kernel
theorem dX6_feed_63 : decode cX6_feed 63 = .ok (.dup, 1) := by decide +kernel
theorem dX6_feed_64 : decode cX6_feed 64 = .ok (.getfield 30, 3) := by decide +kernel
theorem dX6_feed_67 : decode cX6_feed 67 = .ok (.iconst 1, 1) := by decide +kernel
theorem dX6_feed_68 : decode cX6_feed 68 = .ok (.iadd, 1) := by decide +kernel
theorem dX6_feed_69 : decode cX6_feed 69 = .ok (.putfield 30, 3) := by decide +kernel
theorem dX6_feed_72 : decode cX6_feed 72 = .ok (.iinc 3 (-1), 3) := by decide +kernel
theorem dX6_feed_75 : decode cX6_feed 75 = .ok (.goto (-36), 3) := by decide +kernel
theorem dX6_feed_78 : decode cX6_feed 78 = .ok (.aload_n 0, 1) := by decide +kernel
theorem dX6_feed_79 : decode cX6_feed 79 = .ok (.getfield 30, 3) := by decide +kernel
theorem dX6_feed_82 : decode cX6_feed 82 = .ok (.ireturn, 1) := by decide +kernel
theorem dX6_wipe_0 : decode cX6_wipe 0 = .ok (.aload_n 0, 1) := by decide +kernel
theorem dX6_wipe_1 : decode cX6_wipe 1 = .ok (.getfield 30, 3) := by decide +kernel
theorem dX6_wipe_4 : decode cX6_wipe 4 = .ok (.istore_n 1, 1) := by decide +kernel
theorem dX6_wipe_5 : decode cX6_wipe 5 = .ok (.aload_n 0, 1) := by decide +kernel
theorem dX6_wipe_6 : decode cX6_wipe 6 = .ok (.iconst 0, 1) := by decide +kernel
theorem dX6_wipe_7 : decode cX6_wipe 7 = .ok (.putfield 30, 3) := by decide +kernel
theorem dX6_wipe_10 : decode cX6_wipe 10 = .ok (.iload_n 1, 1) := by decide +kernel
theorem dX6_wipe_11 : decode cX6_wipe 11 = .ok (.ireturn, 1) := by decide +kernel
theorem dX6_text_0 : decode cX6_text 0 = .ok (.aload_n 0, 1) := by decide +kernel
theorem dX6_text_1 : decode cX6_text 1 = .ok (.getfield 16, 3) := by decide +kernel
theorem dX6_text_4 : decode cX6_text 4 = .ok (.aload_n 0, 1) := by decide +kernel
theorem dX6_text_5 : decode cX6_text 5 = .ok (.getfield 12, 3) := by decide +kernel
theorem dX6_text_8 : decode cX6_text 8 = .ok (.invokevirtual 191, 3) := by decide +kernel
theorem dX6_text_11 : decode cX6_text 11 = .ok (.aload_n 0, 1) := by decide +kernel
theorem dX6_text_12 : decode cX6_text 12 = .ok (.getfield 37, 3) := by decide +kernel
theorem dX6_text_15 : decode cX6_text 15 = .ok (.aload_n 0, 1) := by decide +kernel
theorem dX6_text_16 : decode cX6_text 16 = .ok (.getfield 26, 3) := by decide +kernel
theorem dX6_text_19 : decode cX6_text 19 = .ok (.aload_n 0, 1) := by decide +kernel
theorem dX6_text_20 : decode cX6_text 20 = .ok (.getfield 30, 3) := by decide +kernel
theorem dX6_text_23 : decode cX6_text 23 = .ok (.aload_n 0, 1) := by decide +kernel
theorem dX6_text_24 : decode cX6_text 24 = .ok (.getfield 16, 3) := by decide +kernel
theorem dX6_text_27 : decode cX6_text 27 = .ok (.invokevirtual 244, 3) := by decide +kernel
theorem dX6_text_30 : decode cX6_text 30 = .ok (.istore_n 1, 1) := by decide +kernel
theorem dX6_text_31 : decode cX6_text 31 = .ok (.iload_n 1, 1) := by decide +kernel
theorem dX6_text_32 : decode cX6_text 32 = .ok (.ifCond .lt 14, 3) := by decide +kernel
theorem dX6_text_35 : decode cX6_text 35 = .ok (.aload_n 0, 1) := by decide +kernel
theorem dX6_text_36 : decode cX6_text 36 = .ok (.getfield 12, 3) := by decide +kernel
theorem dX6_text_39 : decode cX6_text 39 = .ok (.aload_n 0, 1) := by decide +kernel
theorem dX6_text_40 : decode cX6_text 40 = .ok (.getfield 16, 3) := by decide +kernel
theorem dX6_text_43 : decode cX6_text 43 = .ok (.invokevirtual 191, 3) := by decide +kernel
theorem dX6_text_46 : decode cX6_text 46 = .ok (.aload_n 0, 1) := by decide +kernel
theorem dX6_text_47 : decode cX6_text 47 = .ok (.iconst 0, 1) := by decide +kernel
theorem dX6_text_48 : decode cX6_text 48 = .ok (.putfield 30, 3) := by decide +kernel
theorem dX6_text_51 : decode cX6_text 51 = .ok (.iload_n 1, 1) := by decide +kernel
theorem dX6_text_52 : decode cX6_text 52 = .ok (.ireturn, 1) := by decide +kernel
theorem dX6_hold_0 : decode cX6_hold 0 = .ok (.iload_n 1, 1) := by decide +kernel
theorem dX6_hold_1 : decode cX6_hold 1 = .ok (.bipush 9, 2) := by decide +kernel
theorem dX6_hold_3 : decode cX6_hold 3 = .ok (.invokestatic 65, 3) := by decide +kernel
theorem dX6_hold_6 : decode cX6_hold 6 = .ok (.ifCond .eq 19, 3) := by decide +kernel
theorem dX6_hold_9 : decode cX6_hold 9 = .ok (.iload_n 2, 1) := by decide +kernel
theorem dX6_hold_10 : decode cX6_hold 10 = .ok (.iconst (-1), 1) := by decide +kernel
theorem dX6_hold_11 : decode cX6_hold 11 = .ok (.if_icmp .eq 21, 3) := by decide +kernel
theorem dX6_hold_14 : decode cX6_hold 14 = .ok (.aload_n 0, 1) := by decide +kernel
theorem dX6_hold_15 : decode cX6_hold 15 = .ok (.getfield 12, 3) := by decide +kernel
theorem dX6_hold_18 : decode cX6_hold 18 = .ok (.iload_n 2, 1) := by decide +kernel
theorem dX6_hold_19 : decode cX6_hold 19 = .ok (.invokevirtual 82, 3) := by decide +kernel
theorem dX6_hold_22 : decode cX6_hold 22 = .ok (.ifCond .ne 10, 3) := by decide +kernel
theorem dX6_hold_25 : decode cX6_hold 25 = .ok (.aload_n 0, 1) := by decide +kernel
theorem dX6_hold_26 : decode cX6_hold 26 = .ok (.ldc 69, 2) := by decide +kernel
theorem dX6_hold_28 : decode cX6_hold 28 = .ok (.invokevirtual 70, 3) := by decide +kernel
theorem dX6_hold_31 : decode cX6_hold 31 = .ok (.ireturn, 1) := by decide +kernel
theorem dX6_hold_32 : decode cX6_hold 32 = .ok (.aload_n 0, 1) := by decide +kernel
theorem dX6_hold_33 : decode cX6_hold 33 = .ok (.getfield 12, 3) := by decide +kernel
theorem dX6_hold_36 : decode cX6_hold 36 = .ok (.getfield 248, 3) := by decide +kernel
theorem dX6_hold_39 : decode cX6_hold 39 = .ok (.iload_n 1, 1) := by decide +kernel
theorem dX6_hold_40 : decode cX6_hold 40 = .ok (.iload_n 2, 1) := by decide +kernel
theorem dX6_hold_41 : decode cX6_hold 41 = .ok (.iastore, 1) := by decide +kernel
theorem dX6_hold_42 : decode cX6_hold 42 = .ok (.iconst 1, 1) := by decide +kernel
theorem dX6_hold_43 : decode cX6_hold 43 = .ok (.ireturn, 1) := by decide +kernel
theorem dX6_as_0 : decode cX6_as 0 = .ok (.iload_n 1, 1) := by decide +kernel
theorem dX6_as_1 : decode cX6_as 1 = .ok (.bipush 9, 2) := by decide +kernel
theorem dX6_as_3 : decode cX6_as 3 = .ok (.invokestatic 65, 3) := by decide +kernel
theorem dX6_as_6 : decode cX6_as 6 = .ok (.ifCond .eq 12, 3) := by decide +kernel
theorem dX6_as_9 : decode cX6_as 9 = .ok (.iload_n 2, 1) := by decide +kernel
theorem dX6_as_10 : decode cX6_as 10 = .ok (.bipush 6, 2) := by decide +kernel
theorem dX6_as_12 : decode cX6_as 12 = .ok (.invokestatic 65, 3) := by decide +kernel
theorem dX6_as_15 : decode cX6_as 15 = .ok (.ifCond .ne 10, 3) := by decide +kernel
theorem dX6_as_18 : decode cX6_as 18 = .ok (.aload_n 0, 1) := by decide +kernel
theorem dX6_as_19 : decode cX6_as 19 = .ok (.ldc 69, 2) := by decide +kernel
theorem dX6_as_21 : decode cX6_as 21 = .ok (.invokevirtual 70, 3) := by decide +kernel
theorem dX6_as_24 : decode cX6_as 24 = .ok (.ireturn, 1) := by decide +kernel
theorem dX6_as_25 : decode cX6_as 25 = .ok (.aload_n 0, 1) := by decide +kernel
theorem dX6_as_26 : decode cX6_as 26 = .ok (.getfield 12, 3) := by decide +kernel
theorem dX6_as_29 : decode cX6_as 29 = .ok (.getfield 248, 3) := by decide +kernel
theorem dX6_as_32 : decode cX6_as 32 = .ok (.iload_n 1, 1) := by decide +kernel
theorem dX6_as_33 : decode cX6_as 33 = .ok (.iaload, 1) := by decide +kernel
theorem dX6_as_34 : decode cX6_as 34 = .ok (.istore_n 3, 1) := by decide +kernel
theorem dX6_as_35 : decode cX6_as 35 = .ok (.aload_n 0, 1) := by decide +kernel
theorem dX6_as_36 : decode cX6_as 36 = .ok (.getfield 12, 3) := by decide +kernel
theorem dX6_as_39 : decode cX6_as 39 = .ok (.iload_n 3, 1) := by decide +kernel
theorem dX6_as_40 : decode cX6_as 40 = .ok (.invokevirtual 82, 3) := by decide +kernel
theorem dX6_as_43 : decode cX6_as 43 = .ok (.ifCond .ne 10, 3) := by decide +kernel
theorem dX6_as_46 : decode cX6_as 46 = .ok (.aload_n 0, 1) := by decide +kernel
theorem dX6_as_47 : decode cX6_as 47 = .ok (.ldc 251, 2) := by decide +kernel
theorem dX6_as_49 : decode cX6_as 49 = .ok (.invokevirtual 70, 3) := by decide +kernel
theorem dX6_as_52 : decode cX6_as 52 = .ok (.ireturn, 1) := by decide +kernel
theorem dX6_as_53 : decode cX6_as 53 = .ok (.aload_n 0, 1) := by decide +kernel
theorem dX6_as_54 : decode cX6_as 54 = .ok (.getfield 12, 3) := by decide +kernel
theorem dX6_as_57 : decode cX6_as 57 = .ok (.getfield 86, 3) := by decide +kernel
theorem dX6_as_60 : decode cX6_as 60 = .ok (.iload_n 3, 1) := by decide +kernel
theorem dX6_as_61 : decode cX6_as 61 = .ok (.aaload, 1) := by decide +kernel
theorem dX6_as_62 : decode cX6_as 62 = .ok (.iload_n 2, 1) := by decide +kernel
theorem dX6_as_63 : decode cX6_as 63 = .ok (.invokevirtual 252, 3) := by decide +kernel
theorem dX6_as_66 : decode cX6_as 66 = .ok (.ifCond .eq 7, 3) := by decide +kernel
theorem dX6_as_69 : decode cX6_as 69 = .ok (.iload_n 3, 1) := by decide +kernel
theorem dX6_as_70 : decode cX6_as 70 = .ok (.goto 9, 3) := by decide +kernel
theorem dX6_as_73 : decode cX6_as 73 = .ok (.aload_n 0, 1) := by decide +kernel
theorem dX6_as_74 : decode cX6_as 74 = .ok (.ldc 255, 2) := by decide +kernel
theorem dX6_as_76 : decode cX6_as 76 = .ok (.invokevirtual 70, 3) := by decide +kernel
theorem dX6_as_79 : decode cX6_as 79 = .ok (.ireturn, 1) := by decide +kernel
theorem dX6_sheet_0 : decode cX6_sheet 0 = .ok (.iload_n 1, 1) := by decide +kernel
theorem dX6_sheet_1 : decode cX6_sheet 1 = .ok (.invokestatic 256, 3) := by decide +kernel
theorem dX6_sheet_4 : decode cX6_sheet 4 = .ok (.ifCond .eq 25, 3) := by decide +kernel
theorem dX6_sheet_7 : decode cX6_sheet 7 = .ok (.iload_n 2, 1) := by decide +kernel
theorem dX6_sheet_8 : decode cX6_sheet 8 = .ok (.ifCond .eq 28, 3) := by decide +kernel
theorem dX6_sheet_11 : decode cX6_sheet 11 = .ok (.iload_n 2, 1) := by decide +kernel
theorem dX6_sheet_12 : decode cX6_sheet 12 = .ok (.bipush 8, 2) := by decide +kernel
theorem dX6_sheet_14 : decode cX6_sheet 14 = .ok (.if_icmp .eq 22, 3) := by decide +kernel
theorem dX6_sheet_17 : decode cX6_sheet 17 = .ok (.iload_n 2, 1) := by decide +kernel
theorem dX6_sheet_18 : decode cX6_sheet 18 = .ok (.bipush 16, 2) := by decide +kernel
theorem dX6_sheet_20 : decode cX6_sheet 20 = .ok (.if_icmp .eq 16, 3) := by decide +kernel
theorem dX6_sheet_23 : decode cX6_sheet 23 = .ok (.iload_n 2, 1) := by decide +kernel
theorem dX6_sheet_24 : decode cX6_sheet 24 = .ok (.bipush 32, 2) := by decide +kernel
theorem dX6_sheet_26 : decode cX6_sheet 26 = .ok (.if_icmp .eq 10, 3) := by decide +kernel
theorem dX6_sheet_29 : decode cX6_sheet 29 = .ok (.aload_n 0, 1) := by decide +kernel
theorem dX6_sheet_30 : decode cX6_sheet 30 = .ok (.ldc 69, 2) := by decide +kernel
theorem dX6_sheet_32 : decode cX6_sheet 32 = .ok (.invokevirtual 70, 3) := by decide +kernel
theorem dX6_sheet_35 : decode cX6_sheet 35 = .ok (.ireturn, 1) := by decide +kernel
theorem dX6_sheet_36 : decode cX6_sheet 36 = .ok (.iload_n 3, 1) := by decide +kernel
theorem dX6_sheet_37 : decode cX6_sheet 37 = .ok (.ifCond .ge 11, 3) := by decide +kernel
theorem dX6_sheet_40 : decode cX6_sheet 40 = .ok (.aload_n 0, 1) := by decide +kernel
theorem dX6_sheet_41 : decode cX6_sheet 41 = .ok (.ldc_w 259, 3) := by decide +kernel
theorem dX6_sheet_44 : decode cX6_sheet 44 = .ok (.invokevirtual 70, 3) := by decide +kernel
theorem dX6_sheet_47 : decode cX6_sheet 47 = .ok (.ireturn, 1) := by decide +kernel
theorem dX6_sheet_48 : decode cX6_sheet 48 = .ok (.iload_n 3, 1) := by decide +kernel
theorem dX6_sheet_49 : decode cX6_sheet 49 = .ok (.bipush 40, 2) := by decide +kernel
theorem dX6_sheet_51 : decode cX6_sheet 51 = .ok (.if_icmp .le 10, 3) := by decide +kernel
theorem dX6_sheet_54 : decode cX6_sheet 54 = .ok (.aload_n 0, 1) := by decide +kernel
theorem dX6_sheet_55 : decode cX6_sheet 55 = .ok (.ldc 69, 2) := by decide +kernel
theorem dX6_sheet_57 : decode cX6_sheet 57 = .ok (.invokevirtual 70, 3) := by decide +kernel
theorem dX6_sheet_60 : decode cX6_sheet 60 = .ok (.ireturn, 1) := by decide +kernel
theorem dX6_sheet_61 : decode cX6_sheet 61 = .ok (.aload_n 0, 1) := by decide +kernel
theorem dX6_sheet_62 : decode cX6_sheet 62 = .ok (.getfield 43, 3) := by decide +kernel
theorem dX6_sheet_65 : decode cX6_sheet 65 = .ok (.iload_n 1, 1) := by decide +kernel
theorem dX6_sheet_66 : decode cX6_sheet 66 = .ok (.aaload, 1) := by decide +kernel
theorem dX6_sheet_67 : decode cX6_sheet 67 = .ok (.iload_n 2, 1) := by decide +kernel
theorem dX6_sheet_68 : decode cX6_sheet 68 = .ok (.iload_n 3, 1) := by decide +kernel
theorem dX6_sheet_69 : decode cX6_sheet 69 = .ok (.invokevirtual 260, 3) := by decide +kernel
theorem dX6_sheet_72 : decode cX6_sheet 72 = .ok (.aload_n 0, 1) := by decide +kernel
theorem dX6_sheet_73 : decode cX6_sheet 73 = .ok (.getfield 43, 3) := by decide +kernel
theorem dX6_sheet_76 : decode cX6_sheet 76 = .ok (.iload_n 1, 1) := by decide +kernel
theorem dX6_sheet_77 : decode cX6_sheet 77 = .ok (.aaload, 1) := by decide +kernel
theorem dX6_sheet_78 : decode cX6_sheet 78 = .ok (.getfield 263, 3) := by decide +kernel
theorem dX6_sheet_81 : decode cX6_sheet 81 = .ok (.ireturn, 1) := by decide +kernel
theorem dX6_write_0 : decode cX6_write 0 = .ok (.aload_n 0, 1) := by decide +kernel
theorem dX6_write_1 : decode cX6_write 1 = .ok (.iload_n 1, 1) := by decide +kernel
theorem dX6_write_2 : decode cX6_write 2 = .ok (.invokevirtual 266, 3) := by decide +kernel
theorem dX6_write_5 : decode cX6_write 5 = .ok (.istore 4, 2) := by decide +kernel
theorem dX6_write_7 : decode cX6_write 7 = .ok (.iload 4, 2) := by decide +kernel
theorem dX6_write_9 : decode cX6_write 9 = .ok (.ifCond .eq 10, 3) := by decide +kernel
theorem dX6_write_12 : decode cX6_write 12 = .ok (.aload_n 0, 1) := by decide +kernel
theorem dX6_write_13 : decode cX6_write 13 = .ok (.iload 4, 2) := by decide +kernel
theorem dX6_write_15 : decode cX6_write 15 = .ok (.invokevirtual 70, 3) := by decide +kernel
theorem dX6_write_18 : decode cX6_write 18 = .ok (.ireturn, 1) := by decide +kernel
theorem dX6_write_19 : decode cX6_write 19 = .ok (.iload_n 2, 1) := by decide +kernel
theorem dX6_write_20 : decode cX6_write 20 = .ok (.aload_n 0, 1) := by decide +kernel
theorem dX6_write_21 : decode cX6_write 21 = .ok (.getfield 43, 3) := by decide +kernel
theorem dX6_write_24 : decode cX6_write 24 = .ok (.iload_n 1, 1) := by decide +kernel
theorem dX6_write_25 : decode cX6_write 25 = .ok (.aaload, 1) := by decide +kernel
theorem dX6_write_26 : decode cX6_write 26 = .ok (.getfield 263, 3) := by decide +kernel
theorem dX6_write_29 : decode cX6_write 29 = .ok (.iconst 1, 1) := by decide +kernel
theorem dX6_write_30 : decode cX6_write 30 = .ok (.isub, 1) := by decide +kernel
theorem dX6_write_31 : decode cX6_write 31 = .ok (.invokestatic 65, 3) := by decide +kernel
theorem dX6_write_34 : decode cX6_write 34 = .ok (.ifCond .ne 10, 3) := by decide +kernel
theorem dX6_write_37 : decode cX6_write 37 = .ok (.aload_n 0, 1) := by decide +kernel
theorem dX6_write_38 : decode cX6_write 38 = .ok (.ldc 69, 2) := by decide +kernel
theorem dX6_write_40 : decode cX6_write 40 = .ok (.invokevirtual 70, 3) := by decide +kernel
theorem dX6_write_43 : decode cX6_write 43 = .ok (.ireturn, 1) := by decide +kernel
theorem dX6_write_44 : decode cX6_write 44 = .ok (.aload_n 0, 1) := by decide +kernel
theorem dX6_write_45 : decode cX6_write 45 = .ok (.getfield 43, 3) := by decide +kernel
theorem dX6_write_48 : decode cX6_write 48 = .ok (.iload_n 1, 1) := by decide +kernel
theorem dX6_write_49 : decode cX6_write 49 = .ok (.aaload, 1) := by decide +kernel
theorem dX6_write_50 : decode cX6_write 50 = .ok (.iload_n 2, 1) := by decide +kernel
theorem dX6_write_51 : decode cX6_write 51 = .ok (.iload_n 3, 1) := by decide +kernel
theorem dX6_write_52 : decode cX6_write 52 = .ok (.invokevirtual 269, 3) := by decide +kernel
theorem dX6_write_55 : decode cX6_write 55 = .ok (.iconst 1, 1) := by decide +kernel
theorem dX6_write_56 : decode cX6_write 56 = .ok (.ireturn, 1) := by decide +kernel
theorem dX6_copy_0 : decode cX6_copy 0 = .ok (.iload_n 1, 1) := by decide +kernel
theorem dX6_copy_1 : decode cX6_copy 1 = .ok (.invokestatic 256, 3) := by decide +kernel
theorem dX6_copy_4 : decode cX6_copy 4 = .ok (.ifCond .eq 10, 3) := by decide +kernel
theorem dX6_copy_7 : decode cX6_copy 7 = .ok (.iload_n 3, 1) := by decide +kernel
theorem dX6_copy_8 : decode cX6_copy 8 = .ok (.invokestatic 256, 3) := by decide +kernel
theorem dX6_copy_11 : decode cX6_copy 11 = .ok (.ifCond .ne 10, 3) := by decide +kernel
theorem dX6_copy_14 : decode cX6_copy 14 = .ok (.aload_n 0, 1) := by decide +kernel
theorem dX6_copy_15 : decode cX6_copy 15 = .ok (.ldc 69, 2) := by decide +kernel
theorem dX6_copy_17 : decode cX6_copy 17 = .ok (.invokevirtual 70, 3) := by decide +kernel
theorem dX6_copy_20 : decode cX6_copy 20 = .ok (.ireturn, 1) := by decide +kernel
theorem dX6_copy_21 : decode cX6_copy 21 = .ok (.aload_n 0, 1) := by decide +kernel
theorem dX6_copy_22 : decode cX6_copy 22 = .ok (.getfield 43, 3) := by decide +kernel
theorem dX6_copy_25 : decode cX6_copy 25 = .ok (.iload_n 1, 1) := by decide +kernel
theorem dX6_copy_26 : decode cX6_copy 26 = .ok (.aaload, 1) := by decide +kernel
theorem dX6_copy_27 : decode cX6_copy 27 = .ok (.astore 6, 2) := by decide +kernel
theorem dX6_copy_29 : decode cX6_copy 29 = .ok (.aload_n 0, 1) := by decide +kernel
theorem dX6_copy_30 : decode cX6_copy 30 = .ok (.getfield 43, 3) := by decide +kernel
theorem dX6_copy_33 : decode cX6_copy 33 = .ok (.iload_n 3, 1) := by decide +kernel
theorem dX6_copy_34 : decode cX6_copy 34 = .ok (.aaload, 1) := by decide +kernel
theorem dX6_copy_35 : decode cX6_copy 35 = .ok (.astore 7, 2) := by decide +kernel
theorem dX6_copy_37 : decode cX6_copy 37 = .ok (.aload 6, 2) := by decide +kernel
theorem dX6_copy_39 : decode cX6_copy 39 = .ok (.invokevirtual 272, 3) := by decide +kernel
theorem dX6_copy_42 : decode cX6_copy 42 = .ok (.ifCond .ne 11, 3) := by decide +kernel
theorem dX6_copy_45 : decode cX6_copy 45 = .ok (.aload 7, 2) := by decide +kernel
theorem dX6_copy_47 : decode cX6_copy 47 = .ok (.invokevirtual 272, 3) := by decide +kernel
theorem dX6_copy_50 : decode cX6_copy 50 = .ok (.ifCond .eq 10, 3) := by decide +kernel
theorem dX6_copy_53 : decode cX6_copy 53 = .ok (.aload_n 0, 1) := by decide +kernel
theorem dX6_copy_54 : decode cX6_copy 54 = .ok (.ldc 251, 2) := by decide +kernel
theorem dX6_copy_56 : decode cX6_copy 56 = .ok (.invokevirtual 70, 3) := by decide +kernel
theorem dX6_copy_59 : decode cX6_copy 59 = .ok (.ireturn, 1) := by decide +kernel
theorem dX6_copy_60 : decode cX6_copy 60 = .ok (.aload 6, 2) := by decide +kernel
theorem dX6_copy_62 : decode cX6_copy 62 = .ok (.getfield 276, 3) := by decide +kernel
theorem dX6_copy_65 : decode cX6_copy 65 = .ok (.aload 7, 2) := by decide +kernel
theorem dX6_copy_67 : decode cX6_copy 67 = .ok (.getfield 276, 3) := by decide +kernel
theorem dX6_copy_70 : decode cX6_copy 70 = .ok (.if_icmp .eq 10, 3) := by decide +kernel
theorem dX6_copy_73 : decode cX6_copy 73 = .ok (.aload_n 0, 1) := by decide +kernel
theorem dX6_copy_74 : decode cX6_copy 74 = .ok (.ldc 255, 2) := by decide +kernel
theorem dX6_copy_76 : decode cX6_copy 76 = .ok (.invokevirtual 70, 3) := by decide +kernel
theorem dX6_copy_79 : decode cX6_copy 79 = .ok (.ireturn, 1) := by decide +kernel
theorem dX6_copy_80 : decode cX6_copy 80 = .ok (.aload 6, 2) := by decide +kernel
theorem dX6_copy_82 : decode cX6_copy 82 = .ok (.iload_n 2, 1) := by decide +kernel
theorem dX6_copy_83 : decode cX6_copy 83 = .ok (.iload 5, 2) := by decide +kernel
theorem dX6_copy_85 : decode cX6_copy 85 = .ok (.invokevirtual 279, 3) := by decide +kernel
theorem dX6_copy_88 : decode cX6_copy 88 = .ok (.ifCond .eq 15, 3) := by decide +kernel
theorem dX6_copy_91 : decode cX6_copy 91 = .ok (.aload 7, 2) := by decide +kernel
theorem dX6_copy_93 : decode cX6_copy 93 = .ok (.iload 4, 2) := by decide +kernel
theorem dX6_copy_95 : decode cX6_copy 95 = .ok (.iload 5, 2) := by decide +kernel
theorem dX6_copy_97 : decode cX6_copy 97 = .ok (.invokevirtual 279, 3) := by decide +kernel
theorem dX6_copy_100 : decode cX6_copy 100 = .ok (.ifCond .ne 10, 3) := by decide +kernel
theorem dX6_copy_103 : decode cX6_copy 103 = .ok (.aload_n 0, 1) := by decide +kernel
theorem dX6_copy_104 : decode cX6_copy 104 = .ok (.ldc 69, 2) := by decide +kernel
theorem dX6_copy_106 : decode cX6_copy 106 = .ok (.invokevirtual 70, 3) := by decide +kernel
theorem dX6_copy_109 : decode cX6_copy 109 = .ok (.ireturn, 1) := by decide +kernel
theorem dX6_copy_110 : decode cX6_copy 110 = .ok (.aload 6, 2) := by decide +kernel
theorem dX6_copy_112 : decode cX6_copy 112 = .ok (.getfield 282, 3) := by decide +kernel
theorem dX6_copy_115 : decode cX6_copy 115 = .ok (.iload_n 2, 1) := by decide +kernel
theorem dX6_copy_116 : decode cX6_copy 116 = .ok (.aload 7, 2) := by decide +kernel
theorem dX6_copy_118 : decode cX6_copy 118 = .ok (.getfield 282, 3) := by decide +kernel
theorem dX6_copy_121 : decode cX6_copy 121 = .ok (.iload 4, 2) := by decide +kernel
theorem dX6_copy_123 : decode cX6_copy 123 = .ok (.iload 5, 2) := by decide +kernel
theorem dX6_copy_125 : decode cX6_copy 125 = .ok (.invokestatic 285, 3) := by decide +kernel
theorem dX6_copy_128 : decode cX6_copy 128 = .ok (.iload 5, 2) := by decide +kernel
theorem dX6_copy_130 : decode cX6_copy 130 = .ok (.ireturn, 1) := by decide +kernel
theorem dX6_load_0 : decode cX6_load 0 = .ok (.aload_n 0, 1) := by decide +kernel
theorem dX6_load_1 : decode cX6_load 1 = .ok (.iload_n 1, 1) := by decide +kernel
theorem dX6_load_2 : decode cX6_load 2 = .ok (.invokevirtual 266, 3) := by decide +kernel
theorem dX6_load_5 : decode cX6_load 5 = .ok (.istore_n 2, 1) := by decide +kernel
theorem dX6_load_6 : decode cX6_load 6 = .ok (.iload_n 2, 1) := by decide +kernel
theorem dX6_load_7 : decode cX6_load 7 = .ok (.ifCond .eq 9, 3) := by decide +kernel
theorem dX6_load_10 : decode cX6_load 10 = .ok (.aload_n 0, 1) := by decide +kernel
theorem dX6_load_11 : decode cX6_load 11 = .ok (.iload_n 2, 1) := by decide +kernel
theorem dX6_load_12 : decode cX6_load 12 = .ok (.invokevirtual 70, 3) := by decide +kernel
theorem dX6_load_15 : decode cX6_load 15 = .ok (.ireturn, 1) := by decide +kernel
theorem dX6_load_16 : decode cX6_load 16 = .ok (.aload_n 0, 1) := by decide +kernel
theorem dX6_load_17 : decode cX6_load 17 = .ok (.getfield 43, 3) := by decide +kernel
theorem dX6_load_20 : decode cX6_load 20 = .ok (.iload_n 1, 1) := by decide +kernel
theorem dX6_load_21 : decode cX6_load 21 = .ok (.aaload, 1) := by decide +kernel
theorem dX6_load_22 : decode cX6_load 22 = .ok (.astore_n 3, 1) := by decide +kernel
theorem dX6_load_23 : decode cX6_load 23 = .ok (.aload_n 3, 1) := by decide +kernel
theorem dX6_load_24 : decode cX6_load 24 = .ok (.getfield 263, 3) := by decide +kernel
theorem dX6_load_27 : decode cX6_load 27 = .ok (.aload_n 0, 1) := by decide +kernel
theorem dX6_load_28 : decode cX6_load 28 = .ok (.getfield 12, 3) := by decide +kernel
theorem dX6_load_31 : decode cX6_load 31 = .ok (.getfield 74, 3) := by decide +kernel
theorem dX6_load_34 : decode cX6_load 34 = .ok (.invokestatic 291, 3) := by decide +kernel
theorem dX6_load_37 : decode cX6_load 37 = .ok (.istore 4, 2) := by decide +kernel
theorem dX6_load_39 : decode cX6_load 39 = .ok (.iconst 0, 1) := by decide +kernel
theorem dX6_load_40 : decode cX6_load 40 = .ok (.istore 5, 2) := by decide +kernel
theorem dX6_load_42 : decode cX6_load 42 = .ok (.iload 5, 2) := by decide +kernel
theorem dX6_load_44 : decode cX6_load 44 = .ok (.iload 4, 2) := by decide +kernel
theorem dX6_load_46 : decode cX6_load 46 = .ok (.if_icmp .ge 43, 3) := by decide +kernel
theorem dX6_load_49 : decode cX6_load 49 = .ok (.aload_n 3, 1) := by decide +kernel
theorem dX6_load_50 : decode cX6_load 50 = .ok (.getfield 282, 3) := by decide +kernel
theorem dX6_load_53 : decode cX6_load 53 = .ok (.iload 5, 2) := by decide +kernel
theorem dX6_load_55 : decode cX6_load 55 = .ok (.iaload, 1) := by decide +kernel
theorem dX6_load_56 : decode cX6_load 56 = .ok (.iconst 1, 1) := by decide +kernel
theorem dX6_load_57 : decode cX6_load 57 = .ok (.invokestatic 65, 3) := by decide +kernel
theorem dX6_load_60 : decode cX6_load 60 = .ok (.ifCond .eq 29, 3) := by decide +kernel
theorem dX6_load_63 : decode cX6_load 63 = .ok (.aload_n 0, 1) := by decide +kernel
theorem dX6_load_64 : decode cX6_load 64 = .ok (.getfield 12, 3) := by decide +kernel
theorem dX6_load_67 : decode cX6_load 67 = .ok (.getfield 86, 3) := by decide +kernel
theorem dX6_load_70 : decode cX6_load 70 = .ok (.iload 5, 2) := by decide +kernel
theorem dX6_load_72 : decode cX6_load 72 = .ok (.aaload, 1) := by decide +kernel
theorem dX6_load_73 : decode cX6_load 73 = .ok (.aload_n 3, 1) := by decide +kernel
theorem dX6_load_74 : decode cX6_load 74 = .ok (.getfield 282, 3) := by decide +kernel
theorem dX6_load_77 : decode cX6_load 77 = .ok (.iload 5, 2) := by decide +kernel
theorem dX6_load_79 : decode cX6_load 79 = .ok (.iaload, 1) := by decide +kernel
theorem dX6_load_80 : decode cX6_load 80 = .ok (.putfield 104, 3) := by decide +kernel
theorem dX6_load_83 : decode cX6_load 83 = .ok (.iinc 5 1, 3) := by decide +kernel
theorem dX6_load_86 : decode cX6_load 86 = .ok (.goto (-44), 3) := by decide +kernel
theorem dX6_load_89 : decode cX6_load 89 = .ok (.iload 5, 2) := by decide +kernel
theorem dX6_load_91 : decode cX6_load 91 = .ok (.ireturn, 1) := by decide +kernel
theorem dX6_strike_0 : decode cX6_strike 0 = .ok (.aload_n 0, 1) := by decide +kernel
theorem dX6_strike_1 : decode cX6_strike 1 = .ok (.iload_n 1, 1) := by decide +kernel
theorem dX6_strike_2 : decode cX6_strike 2 = .ok (.invokevirtual 266, 3) := by decide +kernel
theorem dX6_strike_5 : decode cX6_strike 5 = .ok (.istore_n 3, 1) := by decide +kernel
theorem dX6_strike_6 : decode cX6_strike 6 = .ok (.iload_n 3, 1) := by decide +kernel
theorem dX6_strike_7 : decode cX6_strike 7 = .ok (.ifCond .eq 9, 3) := by decide +kernel
theorem dX6_strike_10 : decode cX6_strike 10 = .ok (.aload_n 0, 1) := by decide +kernel
theorem dX6_strike_11 : decode cX6_strike 11 = .ok (.iload_n 3, 1) := by decide +kernel
theorem dX6_strike_12 : decode cX6_strike 12 = .ok (.invokevirtual 70, 3) := by decide +kernel
theorem dX6_strike_15 : decode cX6_strike 15 = .ok (.ireturn, 1) := by decide +kernel
theorem dX6_strike_16 : decode cX6_strike 16 = .ok (.iload_n 2, 1) := by decide +kernel
theorem dX6_strike_17 : decode cX6_strike 17 = .ok (.invokestatic 124, 3) := by decide +kernel
theorem dX6_strike_20 : decode cX6_strike 20 = .ok (.ifCond .ne 10, 3) := by decide +kernel
theorem dX6_strike_23 : decode cX6_strike 23 = .ok (.aload_n 0, 1) := by decide +kernel
theorem dX6_strike_24 : decode cX6_strike 24 = .ok (.ldc 69, 2) := by decide +kernel
theorem dX6_strike_26 : decode cX6_strike 26 = .ok (.invokevirtual 70, 3) := by decide +kernel
theorem dX6_strike_29 : decode cX6_strike 29 = .ok (.ireturn, 1) := by decide +kernel
theorem dX6_strike_30 : decode cX6_strike 30 = .ok (.aload_n 0, 1) := by decide +kernel
theorem dX6_strike_31 : decode cX6_strike 31 = .ok (.getfield 50, 3) := by decide +kernel
theorem dX6_strike_34 : decode cX6_strike 34 = .ok (.invokevirtual 203, 3) := by decide +kernel
theorem dX6_strike_37 : decode cX6_strike 37 = .ok (.iconst 0, 1) := by decide +kernel
theorem dX6_strike_38 : decode cX6_strike 38 = .ok (.istore 4, 2) := by decide +kernel
theorem dX6_strike_40 : decode cX6_strike 40 = .ok (.iload 4, 2) := by decide +kernel
theorem dX6_strike_42 : decode cX6_strike 42 = .ok (.aload_n 0, 1) := by decide +kernel
theorem dX6_strike_43 : decode cX6_strike 43 = .ok (.getfield 43, 3) := by decide +kernel
theorem dX6_strike_46 : decode cX6_strike 46 = .ok (.iload_n 1, 1) := by decide +kernel
theorem dX6_strike_47 : decode cX6_strike 47 = .ok (.aaload, 1) := by decide +kernel
theorem dX6_strike_48 : decode cX6_strike 48 = .ok (.getfield 263, 3) := by decide +kernel
theorem dX6_strike_51 : decode cX6_strike 51 = .ok (.if_icmp .ge 28, 3) := by decide +kernel
theorem dX6_strike_54 : decode cX6_strike 54 = .ok (.aload_n 0, 1) := by decide +kernel
theorem dX6_strike_55 : decode cX6_strike 55 = .ok (.getfield 50, 3) := by decide +kernel
theorem dX6_strike_58 : decode cX6_strike 58 = .ok (.aload_n 0, 1) := by decide +kernel
theorem dX6_strike_59 : decode cX6_strike 59 = .ok (.getfield 43, 3) := by decide +kernel
theorem dX6_strike_62 : decode cX6_strike 62 = .ok (.iload_n 1, 1) := by decide +kernel
theorem dX6_strike_63 : decode cX6_strike 63 = .ok (.aaload, 1) := by decide +kernel
theorem dX6_strike_64 : decode cX6_strike 64 = .ok (.getfield 282, 3) := by decide +kernel
theorem dX6_strike_67 : decode cX6_strike 67 = .ok (.iload 4, 2) := by decide +kernel
theorem dX6_strike_69 : decode cX6_strike 69 = .ok (.iaload, 1) := by decide +kernel
theorem dX6_strike_70 : decode cX6_strike 70 = .ok (.invokevirtual 206, 3) := by decide +kernel
theorem dX6_strike_73 : decode cX6_strike 73 = .ok (.iinc 4 1, 3) := by decide +kernel
theorem dX6_strike_76 : decode cX6_strike 76 = .ok (.goto (-36), 3) := by decide +kernel
theorem dX6_strike_79 : decode cX6_strike 79 = .ok (.aload_n 0, 1) := by decide +kernel
theorem dX6_strike_80 : decode cX6_strike 80 = .ok (.getfield 50, 3) := by decide +kernel
theorem dX6_strike_83 : decode cX6_strike 83 = .ok (.aload_n 0, 1) := by decide +kernel
theorem dX6_strike_84 : decode cX6_strike 84 = .ok (.getfield 12, 3) := by decide +kernel
theorem dX6_strike_87 : decode cX6_strike 87 = .ok (.aload_n 0, 1) := by decide +kernel
theorem dX6_strike_88 : decode cX6_strike 88 = .ok (.getfield 12, 3) := by decide +kernel
theorem dX6_strike_91 : decode cX6_strike 91 = .ok (.iload_n 2, 1) := by decide +kernel
theorem dX6_strike_92 : decode cX6_strike 92 = .ok (.invokevirtual 127, 3) := by decide +kernel
theorem dX6_strike_95 : decode cX6_strike 95 = .ok (.invokevirtual 209, 3) := by decide +kernel
theorem dX6_strike_98 : decode cX6_strike 98 = .ok (.istore 4, 2) := by decide +kernel
theorem dX6_strike_100 : decode cX6_strike 100 = .ok (.iload 4, 2) := by decide +kernel
theorem dX6_strike_102 : decode cX6_strike 102 = .ok (.ifCond .lt 8, 3) := by decide +kernel
theorem dX6_strike_105 : decode cX6_strike 105 = .ok (.iload 4, 2) := by decide +kernel
theorem dX6_strike_107 : decode cX6_strike 107 = .ok (.goto 9, 3) := by decide +kernel
theorem dX6_strike_110 : decode cX6_strike 110 = .ok (.aload_n 0, 1) := by decide +kernel
theorem dX6_strike_111 : decode cX6_strike 111 = .ok (.ldc 161, 2) := by decide +kernel
theorem dX6_strike_113 : decode cX6_strike 113 = .ok (.invokevirtual 70, 3) := by decide +kernel
theorem dX6_strike_116 : decode cX6_strike 116 = .ok (.ireturn, 1) := by decide +kernel
theorem dX6_judge_0 : decode cX6_judge 0 = .ok (.aload_n 0, 1) := by decide +kernel
theorem dX6_judge_1 : decode cX6_judge 1 = .ok (.iload_n 1, 1) := by decide +kernel
theorem dX6_judge_2 : decode cX6_judge 2 = .ok (.invokevirtual 266, 3) := by decide +kernel
theorem dX6_judge_5 : decode cX6_judge 5 = .ok (.istore 4, 2) := by decide +kernel
theorem dX6_judge_7 : decode cX6_judge 7 = .ok (.iload 4, 2) := by decide +kernel
theorem dX6_judge_9 : decode cX6_judge 9 = .ok (.ifCond .eq 10, 3) := by decide +kernel
theorem dX6_judge_12 : decode cX6_judge 12 = .ok (.aload_n 0, 1) := by decide +kernel
theorem dX6_judge_13 : decode cX6_judge 13 = .ok (.iload 4, 2) := by decide +kernel
theorem dX6_judge_15 : decode cX6_judge 15 = .ok (.invokevirtual 70, 3) := by decide +kernel
theorem dX6_judge_18 : decode cX6_judge 18 = .ok (.ireturn, 1) := by decide +kernel
theorem dX6_judge_19 : decode cX6_judge 19 = .ok (.iload_n 2, 1) := by decide +kernel
theorem dX6_judge_20 : decode cX6_judge 20 = .ok (.iload_n 3, 1) := by decide +kernel
theorem dX6_judge_21 : decode cX6_judge 21 = .ok (.invokestatic 142, 3) := by decide +kernel
theorem dX6_judge_24 : decode cX6_judge 24 = .ok (.ifCond .ne 10, 3) := by decide +kernel
theorem dX6_judge_27 : decode cX6_judge 27 = .ok (.aload_n 0, 1) := by decide +kernel
theorem dX6_judge_28 : decode cX6_judge 28 = .ok (.ldc 69, 2) := by decide +kernel
theorem dX6_judge_30 : decode cX6_judge 30 = .ok (.invokevirtual 70, 3) := by decide +kernel
theorem dX6_judge_33 : decode cX6_judge 33 = .ok (.ireturn, 1) := by decide +kernel
theorem dX6_judge_34 : decode cX6_judge 34 = .ok (.aload_n 0, 1) := by decide +kernel
theorem dX6_judge_35 : decode cX6_judge 35 = .ok (.getfield 16, 3) := by decide +kernel
theorem dX6_judge_38 : decode cX6_judge 38 = .ok (.aload_n 0, 1) := by decide +kernel
theorem dX6_judge_39 : decode cX6_judge 39 = .ok (.getfield 12, 3) := by decide +kernel
theorem dX6_judge_42 : decode cX6_judge 42 = .ok (.invokevirtual 191, 3) := by decide +kernel
theorem dX6_judge_45 : decode cX6_judge 45 = .ok (.iconst 0, 1) := by decide +kernel
theorem dX6_judge_46 : decode cX6_judge 46 = .ok (.istore 5, 2) := by decide +kernel
theorem dX6_judge_48 : decode cX6_judge 48 = .ok (.iload 5, 2) := by decide +kernel
theorem dX6_judge_50 : decode cX6_judge 50 = .ok (.aload_n 0, 1) := by decide +kernel
theorem dX6_judge_51 : decode cX6_judge 51 = .ok (.getfield 43, 3) := by decide +kernel
theorem dX6_judge_54 : decode cX6_judge 54 = .ok (.iload_n 1, 1) := by decide +kernel
theorem dX6_judge_55 : decode cX6_judge 55 = .ok (.aaload, 1) := by decide +kernel
theorem dX6_judge_56 : decode cX6_judge 56 = .ok (.getfield 263, 3) := by decide +kernel
theorem dX6_judge_59 : decode cX6_judge 59 = .ok (.if_icmp .ge 80, 3) := by decide +kernel
theorem dX6_judge_62 : decode cX6_judge 62 = .ok (.aload_n 0, 1) := by decide +kernel
theorem dX6_judge_63 : decode cX6_judge 63 = .ok (.getfield 43, 3) := by decide +kernel
theorem dX6_judge_66 : decode cX6_judge 66 = .ok (.iload_n 1, 1) := by decide +kernel
theorem dX6_judge_67 : decode cX6_judge 67 = .ok (.aaload, 1) := by decide +kernel
theorem dX6_judge_68 : decode cX6_judge 68 = .ok (.getfield 282, 3) := by decide +kernel
theorem dX6_judge_71 : decode cX6_judge 71 = .ok (.iload 5, 2) := by decide +kernel
theorem dX6_judge_73 : decode cX6_judge 73 = .ok (.iaload, 1) := by decide +kernel
theorem dX6_judge_74 : decode cX6_judge 74 = .ok (.istore 6, 2) := by decide +kernel
theorem dX6_judge_76 : decode cX6_judge 76 = .ok (.iload 6, 2) := by decide +kernel
theorem dX6_judge_78 : decode cX6_judge 78 = .ok (.sipush 999, 3) := by decide +kernel
theorem dX6_judge_81 : decode cX6_judge 81 = .ok (.invokestatic 65, 3) := by decide +kernel
theorem dX6_judge_84 : decode cX6_judge 84 = .ok (.ifCond .eq 21, 3) := by decide +kernel
theorem dX6_judge_87 : decode cX6_judge 87 = .ok (.aload_n 0, 1) := by decide +kernel
theorem dX6_judge_88 : decode cX6_judge 88 = .ok (.getfield 57, 3) := by decide +kernel
theorem dX6_judge_91 : decode cX6_judge 91 = .ok (.aload_n 0, 1) := by decide +kernel
theorem dX6_judge_92 : decode cX6_judge 92 = .ok (.getfield 16, 3) := by decide +kernel
theorem dX6_judge_95 : decode cX6_judge 95 = .ok (.iload_n 2, 1) := by decide +kernel
theorem dX6_judge_96 : decode cX6_judge 96 = .ok (.iload_n 3, 1) := by decide +kernel
theorem dX6_judge_97 : decode cX6_judge 97 = .ok (.iload 6, 2) := by decide +kernel
theorem dX6_judge_99 : decode cX6_judge 99 = .ok (.invokevirtual 294, 3) := by decide +kernel
theorem dX6_judge_102 : decode cX6_judge 102 = .ok (.ifCond .ne 8, 3) := by decide +kernel
theorem dX6_judge_105 : decode cX6_judge 105 = .ok (.iconst 1, 1) := by decide +kernel
theorem dX6_judge_106 : decode cX6_judge 106 = .ok (.iload 5, 2) := by decide +kernel
theorem dX6_judge_108 : decode cX6_judge 108 = .ok (.iadd, 1) := by decide +kernel
theorem dX6_judge_109 : decode cX6_judge 109 = .ok (.ireturn, 1) := by decide +kernel
theorem dX6_judge_110 : decode cX6_judge 110 = .ok (.aload_n 0, 1) := by decide +kernel
theorem dX6_judge_111 : decode cX6_judge 111 = .ok (.getfield 16, 3) := by decide +kernel
theorem dX6_judge_114 : decode cX6_judge 114 = .ok (.aload_n 0, 1) := by decide +kernel
theorem dX6_judge_115 : decode cX6_judge 115 = .ok (.getfield 57, 3) := by decide +kernel
theorem dX6_judge_118 : decode cX6_judge 118 = .ok (.getfield 174, 3) := by decide +kernel
theorem dX6_judge_121 : decode cX6_judge 121 = .ok (.iload_n 3, 1) := by decide +kernel
theorem dX6_judge_122 : decode cX6_judge 122 = .ok (.aload_n 0, 1) := by decide +kernel
theorem dX6_judge_123 : decode cX6_judge 123 = .ok (.getfield 57, 3) := by decide +kernel
theorem dX6_judge_126 : decode cX6_judge 126 = .ok (.getfield 177, 3) := by decide +kernel
theorem dX6_judge_129 : decode cX6_judge 129 = .ok (.iload_n 2, 1) := by decide +kernel
theorem dX6_judge_130 : decode cX6_judge 130 = .ok (.invokevirtual 180, 3) := by decide +kernel
theorem dX6_judge_133 : decode cX6_judge 133 = .ok (.iinc 5 1, 3) := by decide +kernel
theorem dX6_judge_136 : decode cX6_judge 136 = .ok (.goto (-88), 3) := by decide +kernel
theorem dX6_judge_139 : decode cX6_judge 139 = .ok (.iconst 0, 1) := by decide +kernel
theorem dX6_judge_140 : decode cX6_judge 140 = .ok (.ireturn, 1) := by decide +kernel
theorem dX6_image_0 : decode cX6_image 0 = .ok (.aload_n 0, 1) := by decide +kernel
theorem dX6_image_1 : decode cX6_image 1 = .ok (.getfield 19, 3) := by decide +kernel
theorem dX6_image_4 : decode cX6_image 4 = .ok (.aload_n 0, 1) := by decide +kernel
theorem dX6_image_5 : decode cX6_image 5 = .ok (.getfield 12, 3) := by decide +kernel
theorem dX6_image_8 : decode cX6_image 8 = .ok (.invokevirtual 191, 3) := by decide +kernel
theorem dX6_image_11 : decode cX6_image 11 = .ok (.aload_n 0, 1) := by decide +kernel
theorem dX6_image_12 : decode cX6_image 12 = .ok (.iconst 1, 1) := by decide +kernel
theorem dX6_image_13 : decode cX6_image 13 = .ok (.putfield 22, 3) := by decide +kernel
theorem dX6_image_16 : decode cX6_image 16 = .ok (.iconst 1, 1) := by decide +kernel
theorem dX6_image_17 : decode cX6_image 17 = .ok (.ireturn, 1) := by decide +kernel
theorem dX6_undo_0 : decode cX6_undo 0 = .ok (.aload_n 0, 1) := by decide +kernel
theorem dX6_undo_1 : decode cX6_undo 1 = .ok (.getfield 22, 3) := by decide +kernel
theorem dX6_undo_4 : decode cX6_undo 4 = .ok (.ifCond .ne 10, 3) := by decide +kernel
theorem dX6_undo_7 : decode cX6_undo 7 = .ok (.aload_n 0, 1) := by decide +kernel
theorem dX6_undo_8 : decode cX6_undo 8 = .ok (.ldc 161, 2) := by decide +kernel
theorem dX6_undo_10 : decode cX6_undo 10 = .ok (.invokevirtual 70, 3) := by decide +kernel
theorem dX6_undo_13 : decode cX6_undo 13 = .ok (.ireturn, 1) := by decide +kernel
theorem dX6_undo_14 : decode cX6_undo 14 = .ok (.aload_n 0, 1) := by decide +kernel
theorem dX6_undo_15 : decode cX6_undo 15 = .ok (.getfield 12, 3) := by decide +kernel
theorem dX6_undo_18 : decode cX6_undo 18 = .ok (.aload_n 0, 1) := by decide +kernel
theorem dX6_undo_19 : decode cX6_undo 19 = .ok (.getfield 19, 3) := by decide +kernel
theorem dX6_undo_22 : decode cX6_undo 22 = .ok (.invokevirtual 191, 3) := by decide +kernel
theorem dX6_undo_25 : decode cX6_undo 25 = .ok (.aload_n 0, 1) := by decide +kernel
theorem dX6_undo_26 : decode cX6_undo 26 = .ok (.getfield 12, 3) := by decide +kernel
theorem dX6_undo_29 : decode cX6_undo 29 = .ok (.getfield 227, 3) := by decide +kernel
theorem dX6_undo_32 : decode cX6_undo 32 = .ok (.ireturn, 1) := by decide +kernel
theorem dX6_tear_0 : decode cX6_tear 0 = .ok (.aload_n 0, 1) := by decide +kernel
theorem dX6_tear_1 : decode cX6_tear 1 = .ok (.getfield 22, 3) := by decide +kernel
theorem dX6_tear_4 : decode cX6_tear 4 = .ok (.ifCond .eq 7, 3) := by decide +kernel
theorem dX6_tear_7 : decode cX6_tear 7 = .ok (.iconst 1, 1) := by decide +kernel
theorem dX6_tear_8 : decode cX6_tear 8 = .ok (.goto 4, 3) := by decide +kernel
theorem dX6_tear_11 : decode cX6_tear 11 = .ok (.iconst 0, 1) := by decide +kernel
theorem dX6_tear_12 : decode cX6_tear 12 = .ok (.istore_n 1, 1) := by decide +kernel
theorem dX6_tear_13 : decode cX6_tear 13 = .ok (.aload_n 0, 1) := by decide +kernel
theorem dX6_tear_14 : decode cX6_tear 14 = .ok (.iconst 0, 1) := by decide +kernel
theorem dX6_tear_15 : decode cX6_tear 15 = .ok (.putfield 22, 3) := by decide +kernel
theorem dX6_tear_18 : decode cX6_tear 18 = .ok (.iload_n 1, 1) := by decide +kernel
theorem dX6_tear_19 : decode cX6_tear 19 = .ok (.ireturn, 1) := by decide +kernel
theorem dX6_count_0 : decode cX6_count 0 = .ok (.iload_n 1, 1) := by decide +kernel
theorem dX6_count_1 : decode cX6_count 1 = .ok (.tableswitch 116 0 7 #[47, 55, 63, 78, 86, 95, 100, 108], 47) := by decide +kernel
theorem dX6_count_48 : decode cX6_count 48 = .ok (.aload_n 0, 1) := by decide +kernel
theorem dX6_count_49 : decode cX6_count 49 = .ok (.getfield 12, 3) := by decide +kernel
theorem dX6_count_52 : decode cX6_count 52 = .ok (.getfield 227, 3) := by decide +kernel
theorem dX6_count_55 : decode cX6_count 55 = .ok (.ireturn, 1) := by decide +kernel
theorem dX6_count_56 : decode cX6_count 56 = .ok (.aload_n 0, 1) := by decide +kernel
theorem dX6_count_57 : decode cX6_count 57 = .ok (.getfield 12, 3) := by decide +kernel
theorem dX6_count_60 : decode cX6_count 60 = .ok (.getfield 74, 3) := by decide +kernel
theorem dX6_count_63 : decode cX6_count 63 = .ok (.ireturn, 1) := by decide +kernel
theorem dX6_count_64 : decode cX6_count 64 = .ok (.aload_n 0, 1) := by decide +kernel
theorem dX6_count_65 : decode cX6_count 65 = .ok (.getfield 12, 3) := by decide +kernel
theorem dX6_count_68 : decode cX6_count 68 = .ok (.aload_n 0, 1) := by decide +kernel
theorem dX6_count_69 : decode cX6_count 69 = .ok (.getfield 12, 3) := by decide +kernel
theorem dX6_count_72 : decode cX6_count 72 = .ok (.invokevirtual 298, 3) := by decide +kernel
theorem dX6_count_75 : decode cX6_count 75 = .ok (.invokevirtual 130, 3) := by decide +kernel
theorem dX6_count_78 : decode cX6_count 78 = .ok (.ireturn, 1) := by decide +kernel
theorem dX6_count_79 : decode cX6_count 79 = .ok (.aload_n 0, 1) := by decide +kernel
theorem dX6_count_80 : decode cX6_count 80 = .ok (.getfield 12, 3) := by decide +kernel
theorem dX6_count_83 : decode cX6_count 83 = .ok (.invokevirtual 301, 3) := by decide +kernel
theorem dX6_count_86 : decode cX6_count 86 = .ok (.ireturn, 1) := by decide +kernel
theorem dX6_count_87 : decode cX6_count 87 = .ok (.aload_n 0, 1) := by decide +kernel
theorem dX6_count_88 : decode cX6_count 88 = .ok (.getfield 12, 3) := by decide +kernel
theorem dX6_count_91 : decode cX6_count 91 = .ok (.iconst 0, 1) := by decide +kernel
theorem dX6_count_92 : decode cX6_count 92 = .ok (.invokevirtual 133, 3) := by decide +kernel
theorem dX6_count_95 : decode cX6_count 95 = .ok (.ireturn, 1) := by decide +kernel
theorem dX6_count_96 : decode cX6_count 96 = .ok (.aload_n 0, 1) := by decide +kernel
theorem dX6_count_97 : decode cX6_count 97 = .ok (.getfield 30, 3) := by decide +kernel
theorem dX6_count_100 : decode cX6_count 100 = .ok (.ireturn, 1) := by decide +kernel
theorem dX6_count_101 : decode cX6_count 101 = .ok (.aload_n 0, 1) := by decide +kernel
theorem dX6_count_102 : decode cX6_count 102 = .ok (.getfield 12, 3) := by decide +kernel
theorem dX6_count_105 : decode cX6_count 105 = .ok (.getfield 241, 3) := by decide +kernel
theorem dX6_count_108 : decode cX6_count 108 = .ok (.ireturn, 1) := by decide +kernel
theorem dX6_count_109 : decode cX6_count 109 = .ok (.aload_n 0, 1) := by decide +kernel
theorem dX6_count_110 : decode cX6_count 110 = .ok (.getfield 12, 3) := by decide +kernel
theorem dX6_count_113 : decode cX6_count 113 = .ok (.invokevirtual 304, 3) := by decide +kernel
theorem dX6_count_116 : decode cX6_count 116 = .ok (.ireturn, 1) := by decide +kernel
theorem dX6_count_117 : decode cX6_count 117 = .ok (.aload_n 0, 1) := by decide +kernel
theorem dX6_count_118 : decode cX6_count 118 = .ok (.ldc 69, 2) := by decide +kernel
theorem dX6_count_120 : decode cX6_count 120 = .ok (.invokevirtual 70, 3) := by decide +kernel
theorem dX6_count_123 : decode cX6_count 123 = .ok (.ireturn, 1) := by decide +kernel
theorem dX6_status_0 : decode cX6_status 0 = .ok (.iload_n 1, 1) := by decide +kernel
theorem dX6_status_1 : decode cX6_status 1 = .ok (.iconst (-1), 1) := by decide +kernel
theorem dX6_status_2 : decode cX6_status 2 = .ok (.if_icmp .lt 9, 3) := by decide +kernel
theorem dX6_status_5 : decode cX6_status 5 = .ok (.iload_n 1, 1) := by decide +kernel
theorem dX6_status_6 : decode cX6_status 6 = .ok (.bipush 7, 2) := by decide +kernel
theorem dX6_status_8 : decode cX6_status 8 = .ok (.if_icmp .lt 10, 3) := by decide +kernel
theorem dX6_status_11 : decode cX6_status 11 = .ok (.aload_n 0, 1) := by decide +kernel
theorem dX6_status_12 : decode cX6_status 12 = .ok (.ldc 69, 2) := by decide +kernel
theorem dX6_status_14 : decode cX6_status 14 = .ok (.invokevirtual 70, 3) := by decide +kernel
theorem dX6_status_17 : decode cX6_status 17 = .ok (.ireturn, 1) := by decide +kernel
theorem dX6_status_18 : decode cX6_status 18 = .ok (.iload_n 1, 1) := by decide +kernel
theorem dX6_status_19 : decode cX6_status 19 = .ok (.ifCond .lt 10, 3) := by decide +kernel
theorem dX6_status_22 : decode cX6_status 22 = .ok (.aload_n 0, 1) := by decide +kernel
theorem dX6_status_23 : decode cX6_status 23 = .ok (.getfield 61, 3) := by decide +kernel
theorem dX6_status_26 : decode cX6_status 26 = .ok (.iload_n 1, 1) := by decide +kernel
theorem dX6_status_27 : decode cX6_status 27 = .ok (.iaload, 1) := by decide +kernel
theorem dX6_status_28 : decode cX6_status 28 = .ok (.ireturn, 1) := by decide +kernel
theorem dX6_status_29 : decode cX6_status 29 = .ok (.iconst 0, 1) := by decide +kernel
theorem dX6_status_30 : decode cX6_status 30 = .ok (.istore_n 2, 1) := by decide +kernel
theorem dX6_status_31 : decode cX6_status 31 = .ok (.iconst 0, 1) := by decide +kernel
theorem dX6_status_32 : decode cX6_status 32 = .ok (.istore_n 3, 1) := by decide +kernel
theorem dX6_status_33 : decode cX6_status 33 = .ok (.iload_n 3, 1) := by decide +kernel
theorem dX6_status_34 : decode cX6_status 34 = .ok (.bipush 7, 2) := by decide +kernel
theorem dX6_status_36 : decode cX6_status 36 = .ok (.if_icmp .ge 18, 3) := by decide +kernel
theorem dX6_status_39 : decode cX6_status 39 = .ok (.iload_n 2, 1) := by decide +kernel
theorem dX6_status_40 : decode cX6_status 40 = .ok (.aload_n 0, 1) := by decide +kernel
theorem dX6_status_41 : decode cX6_status 41 = .ok (.getfield 61, 3) := by decide +kernel
theorem dX6_status_44 : decode cX6_status 44 = .ok (.iload_n 3, 1) := by decide +kernel
theorem dX6_status_45 : decode cX6_status 45 = .ok (.iaload, 1) := by decide +kernel
theorem dX6_status_46 : decode cX6_status 46 = .ok (.iadd, 1) := by decide +kernel
theorem dX6_status_47 : decode cX6_status 47 = .ok (.istore_n 2, 1) := by decide +kernel
theorem dX6_status_48 : decode cX6_status 48 = .ok (.iinc 3 1, 3) := by decide +kernel
theorem dX6_status_51 : decode cX6_status 51 = .ok (.goto (-18), 3) := by decide +kernel
theorem dX6_status_54 : decode cX6_status 54 = .ok (.iload_n 2, 1) := by decide +kernel
theorem dX6_status_55 : decode cX6_status 55 = .ok (.ireturn, 1) := by decide +kernel
theorem dX6_tell_0 : decode cX6_tell 0 = .ok (.ldc 69, 2) := by decide +kernel
theorem dX6_tell_2 : decode cX6_tell 2 = .ok (.iload_n 1, 1) := by decide +kernel
theorem dX6_tell_3 : decode cX6_tell 3 = .ok (.isub, 1) := by decide +kernel
theorem dX6_tell_4 : decode cX6_tell 4 = .ok (.istore_n 2, 1) := by decide +kernel
theorem dX6_tell_5 : decode cX6_tell 5 = .ok (.iload_n 2, 1) := by decide +kernel
theorem dX6_tell_6 : decode cX6_tell 6 = .ok (.bipush 6, 2) := by decide +kernel
theorem dX6_tell_8 : decode cX6_tell 8 = .ok (.invokestatic 65, 3) := by decide +kernel
theorem dX6_tell_11 : decode cX6_tell 11 = .ok (.ifCond .eq 13, 3) := by decide +kernel
theorem dX6_tell_14 : decode cX6_tell 14 = .ok (.aload_n 0, 1) := by decide +kernel
theorem dX6_tell_15 : decode cX6_tell 15 = .ok (.getfield 61, 3) := by decide +kernel
theorem dX6_tell_18 : decode cX6_tell 18 = .ok (.iload_n 2, 1) := by decide +kernel
theorem dX6_tell_19 : decode cX6_tell 19 = .ok (.dup2, 1) := by decide +kernel
theorem dX6_tell_20 : decode cX6_tell 20 = .ok (.iaload, 1) := by decide +kernel
theorem dX6_tell_21 : decode cX6_tell 21 = .ok (.iconst 1, 1) := by decide +kernel
theorem dX6_tell_22 : decode cX6_tell 22 = .ok (.iadd, 1) := by decide +kernel
theorem dX6_tell_23 : decode cX6_tell 23 = .ok (.iastore, 1) := by decide +kernel
theorem dX6_tell_24 : decode cX6_tell 24 = .ok (.iload_n 1, 1) := by decide +kernel
theorem dX6_tell_25 : decode cX6_tell 25 = .ok (.ireturn, 1) := by decide +kernel
theorem dX6_seekPayment_0 : decode cX6_seekPayment 0 = .ok (.iload_n 1, 1) := by decide +kernel
theorem dX6_seekPayment_1 : decode cX6_seekPayment 1 = .ok (.iload_n 2, 1) := by decide +kernel
theorem dX6_seekPayment_2 : decode cX6_seekPayment 2 = .ok (.invokestatic 142, 3) := by decide +kernel
theorem dX6_seekPayment_5 : decode cX6_seekPayment 5 = .ok (.ifCond .eq 13, 3) := by decide +kernel
theorem dX6_seekPayment_8 : decode cX6_seekPayment 8 = .ok (.iload_n 3, 1) := by decide +kernel
theorem dX6_seekPayment_9 : decode cX6_seekPayment 9 = .ok (.sipush 999, 3) := by decide +kernel
theorem dX6_seekPayment_12 : decode cX6_seekPayment 12 = .ok (.invokestatic 65, 3) := by decide +kernel
theorem dX6_seekPayment_15 : decode cX6_seekPayment 15 = .ok (.ifCond .ne 6, 3) := by decide +kernel
theorem dX6_seekPayment_18 : decode cX6_seekPayment 18 = .ok (.ldc 69, 2) := by decide +kernel
theorem dX6_seekPayment_20 : decode cX6_seekPayment 20 = .ok (.ireturn, 1) := by decide +kernel
theorem dX6_seekPayment_21 : decode cX6_seekPayment 21 = .ok (.aload_n 0, 1) := by decide +kernel
theorem dX6_seekPayment_22 : decode cX6_seekPayment 22 = .ok (.getfield 57, 3) := by decide +kernel
theorem dX6_seekPayment_25 : decode cX6_seekPayment 25 = .ok (.aload_n 0, 1) := by decide +kernel
theorem dX6_seekPayment_26 : decode cX6_seekPayment 26 = .ok (.getfield 12, 3) := by decide +kernel
theorem dX6_seekPayment_29 : decode cX6_seekPayment 29 = .ok (.iload_n 1, 1) := by decide +kernel
theorem dX6_seekPayment_30 : decode cX6_seekPayment 30 = .ok (.iload_n 2, 1) := by decide +kernel
theorem dX6_seekPayment_31 : decode cX6_seekPayment 31 = .ok (.iload_n 3, 1) := by decide +kernel
theorem dX6_seekPayment_32 : decode cX6_seekPayment 32 = .ok (.invokevirtual 294, 3) := by decide +kernel
theorem dX6_seekPayment_35 : decode cX6_seekPayment 35 = .ok (.ifCond .eq 7, 3) := by decide +kernel
theorem dX6_seekPayment_38 : decode cX6_seekPayment 38 = .ok (.iconst 0, 1) := by decide +kernel
theorem dX6_seekPayment_39 : decode cX6_seekPayment 39 = .ok (.goto 5, 3) := by decide +kernel
theorem dX6_seekPayment_42 : decode cX6_seekPayment 42 = .ok (.ldc 161, 2) := by decide +kernel
theorem dX6_seekPayment_44 : decode cX6_seekPayment 44 = .ok (.ireturn, 1) := by decide +kernel
theorem dX6_seekChange_0 : decode cX6_seekChange 0 = .ok (.iload_n 1, 1) := by decide +kernel
theorem dX6_seekChange_1 : decode cX6_seekChange 1 = .ok (.iload_n 2, 1) := by decide +kernel
theorem dX6_seekChange_2 : decode cX6_seekChange 2 = .ok (.invokestatic 142, 3) := by decide +kernel
theorem dX6_seekChange_5 : decode cX6_seekChange 5 = .ok (.ifCond .ne 6, 3) := by decide +kernel
theorem dX6_seekChange_8 : decode cX6_seekChange 8 = .ok (.ldc 69, 2) := by decide +kernel
theorem dX6_seekChange_10 : decode cX6_seekChange 10 = .ok (.ireturn, 1) := by decide +kernel
theorem dX6_seekChange_11 : decode cX6_seekChange 11 = .ok (.aload_n 0, 1) := by decide +kernel
theorem dX6_seekChange_12 : decode cX6_seekChange 12 = .ok (.getfield 57, 3) := by decide +kernel
theorem dX6_seekChange_15 : decode cX6_seekChange 15 = .ok (.aload_n 0, 1) := by decide +kernel
theorem dX6_seekChange_16 : decode cX6_seekChange 16 = .ok (.getfield 12, 3) := by decide +kernel
theorem dX6_seekChange_19 : decode cX6_seekChange 19 = .ok (.iload_n 1, 1) := by decide +kernel
theorem dX6_seekChange_20 : decode cX6_seekChange 20 = .ok (.iload_n 2, 1) := by decide +kernel
theorem dX6_seekChange_21 : decode cX6_seekChange 21 = .ok (.invokevirtual 195, 3) := by decide +kernel
theorem dX6_seekChange_24 : decode cX6_seekChange 24 = .ok (.ifCond .eq 7, 3) := by decide +kernel
theorem dX6_seekChange_27 : decode cX6_seekChange 27 = .ok (.iconst 0, 1) := by decide +kernel
theorem dX6_seekChange_28 : decode cX6_seekChange 28 = .ok (.goto 5, 3) := by decide +kernel
theorem dX6_seekChange_31 : decode cX6_seekChange 31 = .ok (.ldc 161, 2) := by decide +kernel
theorem dX6_seekChange_33 : decode cX6_seekChange 33 = .ok (.ireturn, 1) := by decide +kernel
theorem dX6_seekSheet_0 : decode cX6_seekSheet 0 = .ok (.iload_n 1, 1) := by decide +kernel
theorem dX6_seekSheet_1 : decode cX6_seekSheet 1 = .ok (.invokestatic 256, 3) := by decide +kernel
theorem dX6_seekSheet_4 : decode cX6_seekSheet 4 = .ok (.ifCond .ne 6, 3) := by decide +kernel
theorem dX6_seekSheet_7 : decode cX6_seekSheet 7 = .ok (.ldc 69, 2) := by decide +kernel
theorem dX6_seekSheet_9 : decode cX6_seekSheet 9 = .ok (.ireturn, 1) := by decide +kernel
theorem dX6_seekSheet_10 : decode cX6_seekSheet 10 = .ok (.aload_n 0, 1) := by decide +kernel
theorem dX6_seekSheet_11 : decode cX6_seekSheet 11 = .ok (.getfield 43, 3) := by decide +kernel
theorem dX6_seekSheet_14 : decode cX6_seekSheet 14 = .ok (.iload_n 1, 1) := by decide +kernel
theorem dX6_seekSheet_15 : decode cX6_seekSheet 15 = .ok (.aaload, 1) := by decide +kernel
theorem dX6_seekSheet_16 : decode cX6_seekSheet 16 = .ok (.invokevirtual 272, 3) := by decide +kernel
theorem dX6_seekSheet_19 : decode cX6_seekSheet 19 = .ok (.ifCond .eq 8, 3) := by decide +kernel
theorem dX6_seekSheet_22 : decode cX6_seekSheet 22 = .ok (.ldc 251, 2) := by decide +kernel
theorem dX6_seekSheet_24 : decode cX6_seekSheet 24 = .ok (.goto 4, 3) := by decide +kernel
theorem dX6_seekSheet_27 : decode cX6_seekSheet 27 = .ok (.iconst 0, 1) := by decide +kernel
theorem dX6_seekSheet_28 : decode cX6_seekSheet 28 = .ok (.ireturn, 1) := by decide +kernel
theorem dX6_isWithin_0 : decode cX6_isWithin 0 = .ok (.iload_n 0, 1) := by decide +kernel
theorem dX6_isWithin_1 : decode cX6_isWithin 1 = .ok (.ifCond .lt 12, 3) := by decide +kernel
theorem dX6_isWithin_4 : decode cX6_isWithin 4 = .ok (.iload_n 0, 1) := by decide +kernel
theorem dX6_isWithin_5 : decode cX6_isWithin 5 = .ok (.iload_n 1, 1) := by decide +kernel
theorem dX6_isWithin_6 : decode cX6_isWithin 6 = .ok (.if_icmp .gt 7, 3) := by decide +kernel
theorem dX6_isWithin_9 : decode cX6_isWithin 9 = .ok (.iconst 1, 1) := by decide +kernel
theorem dX6_isWithin_10 : decode cX6_isWithin 10 = .ok (.goto 4, 3) := by decide +kernel
theorem dX6_isWithin_13 : decode cX6_isWithin 13 = .ok (.iconst 0, 1) := by decide +kernel
theorem dX6_isWithin_14 : decode cX6_isWithin 14 = .ok (.ireturn, 1) := by decide +kernel
theorem dX6_isPurse_0 : decode cX6_isPurse 0 = .ok (.iload_n 0, 1) := by decide +kernel
theorem dX6_isPurse_1 : decode cX6_isPurse 1 = .ok (.iconst 3, 1) := by decide +kernel
theorem dX6_isPurse_2 : decode cX6_isPurse 2 = .ok (.invokestatic 65, 3) := by decide +kernel
theorem dX6_isPurse_5 : decode cX6_isPurse 5 = .ok (.ireturn, 1) := by decide +kernel
theorem dX6_areTwoPurses_0 : decode cX6_areTwoPurses 0 = .ok (.iload_n 0, 1) := by decide +kernel
theorem dX6_areTwoPurses_1 : decode cX6_areTwoPurses 1 = .ok (.invokestatic 124, 3) := by decide +kernel
theorem dX6_areTwoPurses_4 : decode cX6_areTwoPurses 4 = .ok (.ifCond .eq 19, 3) := by decide +kernel
theorem dX6_areTwoPurses_7 : decode cX6_areTwoPurses 7 = .ok (.iload_n 1, 1) := by decide +kernel
theorem dX6_areTwoPurses_8 : decode cX6_areTwoPurses 8 = .ok (.invokestatic 124, 3) := by decide +kernel
theorem dX6_areTwoPurses_11 : decode cX6_areTwoPurses 11 = .ok (.ifCond .eq 12, 3) := by decide +kernel
theorem dX6_areTwoPurses_14 : decode cX6_areTwoPurses 14 = .ok (.iload_n 0, 1) := by decide +kernel
theorem dX6_areTwoPurses_15 : decode cX6_areTwoPurses 15 = .ok (.iload_n 1, 1) := by decide +kernel
theorem dX6_areTwoPurses_16 : decode cX6_areTwoPurses 16 = .ok (.if_icmp .eq 7, 3) := by decide +kernel
theorem dX6_areTwoPurses_19 : decode cX6_areTwoPurses 19 = .ok (.iconst 1, 1) := by decide +kernel
theorem dX6_areTwoPurses_20 : decode cX6_areTwoPurses 20 = .ok (.goto 4, 3) := by decide +kernel
theorem dX6_areTwoPurses_23 : decode cX6_areTwoPurses 23 = .ok (.iconst 0, 1) := by decide +kernel
theorem dX6_areTwoPurses_24 : decode cX6_areTwoPurses 24 = .ok (.ireturn, 1) := by decide +kernel
theorem dX6_isSheet_0 : decode cX6_isSheet 0 = .ok (.iload_n 0, 1) := by decide +kernel
theorem dX6_isSheet_1 : decode cX6_isSheet 1 = .ok (.iconst 3, 1) := by decide +kernel
theorem dX6_isSheet_2 : decode cX6_isSheet 2 = .ok (.invokestatic 65, 3) := by decide +kernel
theorem dX6_isSheet_5 : decode cX6_isSheet 5 = .ok (.ireturn, 1) := by decide +kernel
theorem dX6_mostOf_0 : decode cX6_mostOf 0 = .ok (.iload_n 0, 1) := by decide +kernel
theorem dX6_mostOf_1 : decode cX6_mostOf 1 = .ok (.tableswitch 48 0 4 #[35, 38, 40, 43, 46], 35) := by decide +kernel
theorem dX6_mostOf_36 : decode cX6_mostOf 36 = .ok (.bipush 6, 2) := by decide +kernel
theorem dX6_mostOf_38 : decode cX6_mostOf 38 = .ok (.ireturn, 1) := by decide +kernel
theorem dX6_mostOf_39 : decode cX6_mostOf 39 = .ok (.iconst 3, 1) := by decide +kernel
theorem dX6_mostOf_40 : decode cX6_mostOf 40 = .ok (.ireturn, 1) := by decide +kernel
theorem dX6_mostOf_41 : decode cX6_mostOf 41 = .ok (.bipush 99, 2) := by decide +kernel
theorem dX6_mostOf_43 : decode cX6_mostOf 43 = .ok (.ireturn, 1) := by decide +kernel
theorem dX6_mostOf_44 : decode cX6_mostOf 44 = .ok (.bipush 99, 2) := by decide +kernel
theorem dX6_mostOf_46 : decode cX6_mostOf 46 = .ok (.ireturn, 1) := by decide +kernel
theorem dX6_mostOf_47 : decode cX6_mostOf 47 = .ok (.iconst 1, 1) := by decide +kernel
theorem dX6_mostOf_48 : decode cX6_mostOf 48 = .ok (.ireturn, 1) := by decide +kernel
theorem dX6_mostOf_49 : decode cX6_mostOf 49 = .ok (.iconst (-1), 1) := by decide +kernel
theorem dX6_mostOf_50 : decode cX6_mostOf 50 = .ok (.ireturn, 1) := by decide +kernel
theorem dX6_holds_0 : decode cX6_holds 0 = .ok (.iload_n 0, 1) := by decide +kernel
theorem dX6_holds_1 : decode cX6_holds 1 = .ok (.iload_n 1, 1) := by decide +kernel
theorem dX6_holds_2 : decode cX6_holds 2 = .ok (.ishr, 1) := by decide +kernel
theorem dX6_holds_3 : decode cX6_holds 3 = .ok (.iconst 1, 1) := by decide +kernel
