/-! CONSTRUCTORS: the reference -/
def IMD (I : Nat → Nat → Int32) : Nat → Nat → Int32 := (up2 (up2 (up2 (up2 (up2 (up2 (up2 (up2 (up2 (up2 (up2 I 77 2 (nI 1)) 77 3 (-1)) 77 4 (-1)) 77 5 (-1)) 77 6 (-1)) 77 7 (-1)) 77 8 (-1)) 77 9 (-1)) 77 10 (-1)) 77 11 (-1)) 77 12 (-1))
def RMD (R : Nat → Nat → Option Nat) : Nat → Nat → Option Nat := (up2 (up2 (up2 (up2 (up2 (up2 (up2 (up2 (up2 (up2 (up2 (up2 (up2 (up2 (up2 (up2 (up2 (up2 (up2 (up2 R 76 0 (some 77)) 76 1 (some 78)) 76 2 (some 79)) 76 4 (some 80)) 76 5 (some 81)) 76 9 (some 82)) 83 0 (some (1000 + 0))) 83 1 (some (1000 + 1))) 83 2 (some (1000 + 2))) 83 3 (some (1000 + 3))) 83 4 (some (1000 + 4))) 83 5 (some (1000 + 5))) 83 6 (some (1000 + 6))) 76 16 (some 83)) 76 17 (some 84)) 76 20 (some 85)) 76 21 (some 86)) 76 22 (some 87)) 76 23 (some 88)) 76 24 (some 89))
set_option maxRecDepth 100000 in
theorem n_model {G : mG} {I : Nat → Nat → Int32} {J : Nat → Nat → Int64} {R : Nat → Nat → Option Nat} (hn : g_new (sh0.take 77, I, J, R)) : zC G yX7_init (eX7_init (g_rmc 1 13 2173)) [.ref 76] (sh0.take 77, I, J, R) (fun r M => r = none ∧ M = (sh0.take 90, IMD I, J, RMD R) ∧ g_new (sh0.take 90, IMD I, J, RMD R)) := by
  refine zC_of (by decide +kernel) rfl (by decide) (Nat.le_of_ble_eq_true rfl) ?_
  show zV G (eX7_init (g_rmc 1 13 2173)) (0, 0) 0 [(0, .ref 76)] [] (sh0.take 77, I, J, R) _
  refine zV_aload_n dX7_init_0 rfl 0 rfl rfl ?_
  refine zV_objInit dX7_init_1 rfl ko_RX7_1 (by decide) (by decide) ?_
  refine zV_aload_n dX7_init_4 rfl 0 rfl rfl ?_
  refine zV_bipush (v := (nI 73)) dX7_init_5 rfl rfl ?_
  refine zV_newa (t := 0) (N := 73) dX7_init_7 rfl tw73 rfl (by decide) rfl (by decide) hn (by decide) ⟨by decide, by decide⟩ ?_
  have gn78 := gn_le hn (show 77 ≤ 78 by decide)
  show zV G (eX7_init (g_rmc 1 13 2173)) (1, 73) 9 [(0, .ref 76)] [.ref 77, .ref 76] (sh0.take 78, I, J, R) _
  refine zV_putF (q' := 77) 0 dX7_init_9 rfl rfl fl_RX7_9 rfl (by decide) rfl (fun _ => rfl) (fun _ => rfl) ?_
  refine zV_aload_n dX7_init_12 rfl 0 rfl rfl ?_
  refine zV_bipush (v := (nI 73)) dX7_init_13 rfl rfl ?_
  refine zV_newa (t := 0) (N := 73) dX7_init_15 rfl tw73 rfl (by decide) rfl (by decide) (gn_R (q := 76) (k := 0) (v := some 77) gn78 (by decide)) (by decide) ⟨by decide, by decide⟩ ?_
  have gn79 := gn_le (gn_R (q := 76) (k := 0) (v := some 77) gn78 (by decide)) (show 78 ≤ 79 by decide)
  show zV G (eX7_init (g_rmc 1 13 2173)) (2, 146) 17 [(0, .ref 76)] [.ref 78, .ref 76] (sh0.take 79, I, J, (up2 R 76 0 (some 77))) _
  refine zV_putF (q' := 78) 1 dX7_init_17 rfl rfl fl_RX7_13 rfl (by decide) rfl (fun _ => rfl) (fun _ => rfl) ?_
  refine zV_aload_n dX7_init_20 rfl 0 rfl rfl ?_
  refine zV_bipush (v := (nI 73)) dX7_init_21 rfl rfl ?_
  refine zV_newa (t := 0) (N := 73) dX7_init_23 rfl tw73 rfl (by decide) rfl (by decide) (gn_R (q := 76) (k := 1) (v := some 78) gn79 (by decide)) (by decide) ⟨by decide, by decide⟩ ?_
  have gn80 := gn_le (gn_R (q := 76) (k := 1) (v := some 78) gn79 (by decide)) (show 79 ≤ 80 by decide)
  show zV G (eX7_init (g_rmc 1 13 2173)) (3, 219) 25 [(0, .ref 76)] [.ref 79, .ref 76] (sh0.take 80, I, J, (up2 (up2 R 76 0 (some 77)) 76 1 (some 78))) _
  refine zV_putF (q' := 79) 2 dX7_init_25 rfl rfl fl_RX7_16 rfl (by decide) rfl (fun _ => rfl) (fun _ => rfl) ?_
  refine zV_aload_n dX7_init_28 rfl 0 rfl rfl ?_
  refine zV_bipush (v := (nI 8)) dX7_init_29 rfl rfl ?_
  refine zV_newa (t := 0) (N := 8) dX7_init_31 rfl tw73 rfl (by decide) rfl (by decide) (gn_R (q := 76) (k := 2) (v := some 79) gn80 (by decide)) (by decide) ⟨by decide, by decide⟩ ?_
  have gn81 := gn_le (gn_R (q := 76) (k := 2) (v := some 79) gn80 (by decide)) (show 80 ≤ 81 by decide)
  show zV G (eX7_init (g_rmc 1 13 2173)) (4, 227) 33 [(0, .ref 76)] [.ref 80, .ref 76] (sh0.take 81, I, J, (up2 (up2 (up2 R 76 0 (some 77)) 76 1 (some 78)) 76 2 (some 79))) _
  refine zV_putF (q' := 80) 4 dX7_init_33 rfl rfl fl_RX7_19 rfl (by decide) rfl (fun _ => rfl) (fun _ => rfl) ?_
  refine zV_aload_n dX7_init_36 rfl 0 rfl rfl ?_
  refine zV_sipush (v := (nI 1001)) dX7_init_37 rfl rfl ?_
  refine zV_newa (t := 2) (N := 1001) dX7_init_40 rfl tw959 rfl (by decide) rfl (by decide) (gn_R (q := 76) (k := 4) (v := some 80) gn81 (by decide)) (by decide) ⟨by decide, by decide⟩ ?_
  have gn82 := gn_le (gn_R (q := 76) (k := 4) (v := some 80) gn81 (by decide)) (show 81 ≤ 82 by decide)
  show zV G (eX7_init (g_rmc 1 13 2173)) (5, 1228) 42 [(0, .ref 76)] [.ref 81, .ref 76] (sh0.take 82, I, J, (up2 (up2 (up2 (up2 R 76 0 (some 77)) 76 1 (some 78)) 76 2 (some 79)) 76 4 (some 80))) _
  refine zV_putF (q' := 81) 5 dX7_init_42 rfl rfl fl_RX7_22 rfl (by decide) rfl (fun _ => rfl) (fun _ => rfl) ?_
  refine zV_aload_n dX7_init_45 rfl 0 rfl rfl ?_
  refine zV_bipush (v := (nI 120)) dX7_init_46 rfl rfl ?_
  refine zV_newa (t := 0) (N := 120) dX7_init_48 rfl tw73 rfl (by decide) rfl (by decide) (gn_R (q := 76) (k := 5) (v := some 81) gn82 (by decide)) (by decide) ⟨by decide, by decide⟩ ?_
  have gn83 := gn_le (gn_R (q := 76) (k := 5) (v := some 81) gn82 (by decide)) (show 82 ≤ 83 by decide)
  show zV G (eX7_init (g_rmc 1 13 2173)) (6, 1348) 50 [(0, .ref 76)] [.ref 82, .ref 76] (sh0.take 83, I, J, (up2 (up2 (up2 (up2 (up2 R 76 0 (some 77)) 76 1 (some 78)) 76 2 (some 79)) 76 4 (some 80)) 76 5 (some 81))) _
  refine zV_putF (q' := 82) 9 dX7_init_50 rfl rfl fl_RX7_26 rfl (by decide) rfl (fun _ => rfl) (fun _ => rfl) ?_
  refine zV_aload_n dX7_init_53 rfl 0 rfl rfl ?_
  refine zV_bipush (v := (nI 7)) dX7_init_54 rfl rfl ?_
  refine zV_newq (t := 5) (N := 7) dX7_init_56 rfl tw874 (by decide) rfl (by decide) rfl (by decide) (gn_R (q := 76) (k := 9) (v := some 82) gn83 (by decide)) (by decide) ⟨by decide, by decide⟩ ?_
  have gn84 := gn_le (gn_R (q := 76) (k := 9) (v := some 82) gn83 (by decide)) (show 83 ≤ 84 by decide)
  show zV G (eX7_init (g_rmc 1 13 2173)) (7, 1355) 59 [(0, .ref 76)] [.ref 83, .ref 76] (sh0.take 84, I, J, (up2 (up2 (up2 (up2 (up2 (up2 R 76 0 (some 77)) 76 1 (some 78)) 76 2 (some 79)) 76 4 (some 80)) 76 5 (some 81)) 76 9 (some 82))) _
  refine zV_dup dX7_init_59 rfl rfl ?_
  refine zV_iconst (v := (nI 0)) dX7_init_60 rfl rfl ?_
  refine zV_ldcS (i := 0) (tx := "coin") dX7_init_61 rfl (by decide) ?_
  refine zV_aastoreS (w := 0) 0 (by decide) dX7_init_63 rfl rfl rfl (by decide) (by decide) ?_
  refine zV_dup dX7_init_64 rfl rfl ?_
  refine zV_iconst (v := (nI 1)) dX7_init_65 rfl rfl ?_
  refine zV_ldcS (i := 1) (tx := "heavy") dX7_init_66 rfl (by decide) ?_
  refine zV_aastoreS (w := 1) 1 (by decide) dX7_init_68 rfl rfl rfl (by decide) (by decide) ?_
  refine zV_dup dX7_init_69 rfl rfl ?_
  refine zV_iconst (v := (nI 2)) dX7_init_70 rfl rfl ?_
  refine zV_ldcS (i := 2) (tx := "edged") dX7_init_71 rfl (by decide) ?_
  refine zV_aastoreS (w := 2) 2 (by decide) dX7_init_73 rfl rfl rfl (by decide) (by decide) ?_
  refine zV_dup dX7_init_74 rfl rfl ?_
  refine zV_iconst (v := (nI 3)) dX7_init_75 rfl rfl ?_
  refine zV_ldcS (i := 3) (tx := "forged") dX7_init_76 rfl (by decide) ?_
  refine zV_aastoreS (w := 3) 3 (by decide) dX7_init_78 rfl rfl rfl (by decide) (by decide) ?_
  refine zV_dup dX7_init_79 rfl rfl ?_
  refine zV_iconst (v := (nI 4)) dX7_init_80 rfl rfl ?_
  refine zV_ldcS (i := 4) (tx := "twice") dX7_init_81 rfl (by decide) ?_
  refine zV_aastoreS (w := 4) 4 (by decide) dX7_init_83 rfl rfl rfl (by decide) (by decide) ?_
  refine zV_dup dX7_init_84 rfl rfl ?_
  refine zV_iconst (v := (nI 5)) dX7_init_85 rfl rfl ?_
  refine zV_ldcS (i := 5) (tx := "worn") dX7_init_86 rfl (by decide) ?_
  refine zV_aastoreS (w := 5) 5 (by decide) dX7_init_88 rfl rfl rfl (by decide) (by decide) ?_
  refine zV_dup dX7_init_89 rfl rfl ?_
  refine zV_bipush (v := (nI 6)) dX7_init_90 rfl rfl ?_
  refine zV_ldcS (i := 6) (tx := "foreign") dX7_init_92 rfl (by decide) ?_
  refine zV_aastoreS (w := 6) 6 (by decide) dX7_init_94 rfl rfl rfl (by decide) (by decide) ?_
  refine zV_putF (q' := 83) 16 dX7_init_95 rfl rfl fl_RX7_45 rfl (by decide) rfl (fun _ => rfl) (fun _ => rfl) ?_
  refine zV_aload_n dX7_init_98 rfl 0 rfl rfl ?_
  refine zV_sipush (v := (nI 600)) dX7_init_99 rfl rfl ?_
  refine zV_newa (t := 0) (N := 600) dX7_init_102 rfl tw73 rfl (by decide) rfl (by decide) (gn_R (q := 76) (k := 16) (v := some 83) (gn_R (q := 83) (k := 6) (v := some (1000 + 6)) (gn_R (q := 83) (k := 5) (v := some (1000 + 5)) (gn_R (q := 83) (k := 4) (v := some (1000 + 4)) (gn_R (q := 83) (k := 3) (v := some (1000 + 3)) (gn_R (q := 83) (k := 2) (v := some (1000 + 2)) (gn_R (q := 83) (k := 1) (v := some (1000 + 1)) (gn_R (q := 83) (k := 0) (v := some (1000 + 0)) gn84 (by decide)) (by decide)) (by decide)) (by decide)) (by decide)) (by decide)) (by decide)) (by decide)) (by decide) ⟨by decide, by decide⟩ ?_
  have gn85 := gn_le (gn_R (q := 76) (k := 16) (v := some 83) (gn_R (q := 83) (k := 6) (v := some (1000 + 6)) (gn_R (q := 83) (k := 5) (v := some (1000 + 5)) (gn_R (q := 83) (k := 4) (v := some (1000 + 4)) (gn_R (q := 83) (k := 3) (v := some (1000 + 3)) (gn_R (q := 83) (k := 2) (v := some (1000 + 2)) (gn_R (q := 83) (k := 1) (v := some (1000 + 1)) (gn_R (q := 83) (k := 0) (v := some (1000 + 0)) gn84 (by decide)) (by decide)) (by decide)) (by decide)) (by decide)) (by decide)) (by decide)) (by decide)) (show 84 ≤ 85 by decide)
  show zV G (eX7_init (g_rmc 1 13 2173)) (8, 1955) 104 [(0, .ref 76)] [.ref 84, .ref 76] (sh0.take 85, I, J, (up2 (up2 (up2 (up2 (up2 (up2 (up2 (up2 (up2 (up2 (up2 (up2 (up2 (up2 R 76 0 (some 77)) 76 1 (some 78)) 76 2 (some 79)) 76 4 (some 80)) 76 5 (some 81)) 76 9 (some 82)) 83 0 (some (1000 + 0))) 83 1 (some (1000 + 1))) 83 2 (some (1000 + 2))) 83 3 (some (1000 + 3))) 83 4 (some (1000 + 4))) 83 5 (some (1000 + 5))) 83 6 (some (1000 + 6))) 76 16 (some 83))) _
  refine zV_putF (q' := 84) 17 dX7_init_104 rfl rfl fl_RX7_49 rfl (by decide) rfl (fun _ => rfl) (fun _ => rfl) ?_
  refine zV_aload_n dX7_init_107 rfl 0 rfl rfl ?_
  refine zV_bipush (v := (nI 10)) dX7_init_108 rfl rfl ?_
  refine zV_newa (t := 0) (N := 10) dX7_init_110 rfl tw73 rfl (by decide) rfl (by decide) (gn_R (q := 76) (k := 17) (v := some 84) gn85 (by decide)) (by decide) ⟨by decide, by decide⟩ ?_
  have gn86 := gn_le (gn_R (q := 76) (k := 17) (v := some 84) gn85 (by decide)) (show 85 ≤ 86 by decide)
  show zV G (eX7_init (g_rmc 1 13 2173)) (9, 1965) 112 [(0, .ref 76)] [.ref 85, .ref 76] (sh0.take 86, I, J, (up2 (up2 (up2 (up2 (up2 (up2 (up2 (up2 (up2 (up2 (up2 (up2 (up2 (up2 (up2 R 76 0 (some 77)) 76 1 (some 78)) 76 2 (some 79)) 76 4 (some 80)) 76 5 (some 81)) 76 9 (some 82)) 83 0 (some (1000 + 0))) 83 1 (some (1000 + 1))) 83 2 (some (1000 + 2))) 83 3 (some (1000 + 3))) 83 4 (some (1000 + 4))) 83 5 (some (1000 + 5))) 83 6 (some (1000 + 6))) 76 16 (some 83)) 76 17 (some 84))) _
  refine zV_putF (q' := 85) 20 dX7_init_112 rfl rfl fl_RX7_52 rfl (by decide) rfl (fun _ => rfl) (fun _ => rfl) ?_
  refine zV_aload_n dX7_init_115 rfl 0 rfl rfl ?_
  refine zV_iconst (v := (nI 4)) dX7_init_116 rfl rfl ?_
  refine zV_newa (t := 0) (N := 4) dX7_init_117 rfl tw73 rfl (by decide) rfl (by decide) (gn_R (q := 76) (k := 20) (v := some 85) gn86 (by decide)) (by decide) ⟨by decide, by decide⟩ ?_
  have gn87 := gn_le (gn_R (q := 76) (k := 20) (v := some 85) gn86 (by decide)) (show 86 ≤ 87 by decide)
  show zV G (eX7_init (g_rmc 1 13 2173)) (10, 1969) 119 [(0, .ref 76)] [.ref 86, .ref 76] (sh0.take 87, I, J, (up2 (up2 (up2 (up2 (up2 (up2 (up2 (up2 (up2 (up2 (up2 (up2 (up2 (up2 (up2 (up2 R 76 0 (some 77)) 76 1 (some 78)) 76 2 (some 79)) 76 4 (some 80)) 76 5 (some 81)) 76 9 (some 82)) 83 0 (some (1000 + 0))) 83 1 (some (1000 + 1))) 83 2 (some (1000 + 2))) 83 3 (some (1000 + 3))) 83 4 (some (1000 + 4))) 83 5 (some (1000 + 5))) 83 6 (some (1000 + 6))) 76 16 (some 83)) 76 17 (some 84)) 76 20 (some 85))) _
  refine zV_putF (q' := 86) 21 dX7_init_119 rfl rfl fl_RX7_55 rfl (by decide) rfl (fun _ => rfl) (fun _ => rfl) ?_
  refine zV_aload_n dX7_init_122 rfl 0 rfl rfl ?_
  refine zV_iconst (v := (nI 4)) dX7_init_123 rfl rfl ?_
  refine zV_newa (t := 0) (N := 4) dX7_init_124 rfl tw73 rfl (by decide) rfl (by decide) (gn_R (q := 76) (k := 21) (v := some 86) gn87 (by decide)) (by decide) ⟨by decide, by decide⟩ ?_
  have gn88 := gn_le (gn_R (q := 76) (k := 21) (v := some 86) gn87 (by decide)) (show 87 ≤ 88 by decide)
  show zV G (eX7_init (g_rmc 1 13 2173)) (11, 1973) 126 [(0, .ref 76)] [.ref 87, .ref 76] (sh0.take 88, I, J, (up2 (up2 (up2 (up2 (up2 (up2 (up2 (up2 (up2 (up2 (up2 (up2 (up2 (up2 (up2 (up2 (up2 R 76 0 (some 77)) 76 1 (some 78)) 76 2 (some 79)) 76 4 (some 80)) 76 5 (some 81)) 76 9 (some 82)) 83 0 (some (1000 + 0))) 83 1 (some (1000 + 1))) 83 2 (some (1000 + 2))) 83 3 (some (1000 + 3))) 83 4 (some (1000 + 4))) 83 5 (some (1000 + 5))) 83 6 (some (1000 + 6))) 76 16 (some 83)) 76 17 (some 84)) 76 20 (some 85)) 76 21 (some 86))) _
  refine zV_putF (q' := 87) 22 dX7_init_126 rfl rfl fl_RX7_58 rfl (by decide) rfl (fun _ => rfl) (fun _ => rfl) ?_
  refine zV_aload_n dX7_init_129 rfl 0 rfl rfl ?_
  refine zV_sipush (v := (nI 160)) dX7_init_130 rfl rfl ?_
  refine zV_newa (t := 0) (N := 160) dX7_init_133 rfl tw73 rfl (by decide) rfl (by decide) (gn_R (q := 76) (k := 22) (v := some 87) gn88 (by decide)) (by decide) ⟨by decide, by decide⟩ ?_
  have gn89 := gn_le (gn_R (q := 76) (k := 22) (v := some 87) gn88 (by decide)) (show 88 ≤ 89 by decide)
  show zV G (eX7_init (g_rmc 1 13 2173)) (12, 2133) 135 [(0, .ref 76)] [.ref 88, .ref 76] (sh0.take 89, I, J, (up2 (up2 (up2 (up2 (up2 (up2 (up2 (up2 (up2 (up2 (up2 (up2 (up2 (up2 (up2 (up2 (up2 (up2 R 76 0 (some 77)) 76 1 (some 78)) 76 2 (some 79)) 76 4 (some 80)) 76 5 (some 81)) 76 9 (some 82)) 83 0 (some (1000 + 0))) 83 1 (some (1000 + 1))) 83 2 (some (1000 + 2))) 83 3 (some (1000 + 3))) 83 4 (some (1000 + 4))) 83 5 (some (1000 + 5))) 83 6 (some (1000 + 6))) 76 16 (some 83)) 76 17 (some 84)) 76 20 (some 85)) 76 21 (some 86)) 76 22 (some 87))) _
  refine zV_putF (q' := 88) 23 dX7_init_135 rfl rfl fl_RX7_61 rfl (by decide) rfl (fun _ => rfl) (fun _ => rfl) ?_
  refine zV_aload_n dX7_init_138 rfl 0 rfl rfl ?_
  refine zV_bipush (v := (nI 40)) dX7_init_139 rfl rfl ?_
  refine zV_newa (t := 0) (N := 40) dX7_init_141 rfl tw73 rfl (by decide) rfl (by decide) (gn_R (q := 76) (k := 23) (v := some 88) gn89 (by decide)) (by decide) ⟨by decide, by decide⟩ ?_
  have gn90 := gn_le (gn_R (q := 76) (k := 23) (v := some 88) gn89 (by decide)) (show 89 ≤ 90 by decide)
  show zV G (eX7_init (g_rmc 1 13 2173)) (13, 2173) 143 [(0, .ref 76)] [.ref 89, .ref 76] (sh0.take 90, I, J, (up2 (up2 (up2 (up2 (up2 (up2 (up2 (up2 (up2 (up2 (up2 (up2 (up2 (up2 (up2 (up2 (up2 (up2 (up2 R 76 0 (some 77)) 76 1 (some 78)) 76 2 (some 79)) 76 4 (some 80)) 76 5 (some 81)) 76 9 (some 82)) 83 0 (some (1000 + 0))) 83 1 (some (1000 + 1))) 83 2 (some (1000 + 2))) 83 3 (some (1000 + 3))) 83 4 (some (1000 + 4))) 83 5 (some (1000 + 5))) 83 6 (some (1000 + 6))) 76 16 (some 83)) 76 17 (some 84)) 76 20 (some 85)) 76 21 (some 86)) 76 22 (some 87)) 76 23 (some 88))) _
  refine zV_putF (q' := 89) 24 dX7_init_143 rfl rfl fl_RX7_64 rfl (by decide) rfl (fun _ => rfl) (fun _ => rfl) ?_
  refine zV_aload_n dX7_init_146 rfl 0 rfl rfl ?_
  refine zV_getr (q' := 77) 0 dX7_init_147 rfl fl_RX7_9 rfl (by decide) rfl rfl ?_
  refine zV_iconst (v := (nI 2)) dX7_init_150 rfl rfl ?_
  refine zV_iconst (v := (nI 1)) dX7_init_151 rfl rfl ?_
  refine zV_iastore 2 dX7_init_152 rfl rfl rfl (by decide) (by decide)  ?_
  refine zV_iconst (v := (nI 0)) dX7_init_153 rfl rfl ?_
  refine zV_istore_n (lv' := [(0, .ref 76), (1, .int (nI 0))]) dX7_init_154 rfl rfl (by decide) rfl ?_
  refine zV_iload_n dX7_init_155 rfl 1 rfl rfl ?_
  refine zV_bipush (v := (nI 10)) dX7_init_156 rfl rfl ?_
  refine zN_icmp_ge (tgt := 176) dX7_init_158 rfl rfl (by decide) (by decide) (fun z => absurd z (by decide)) (fun _ => ?_)
  refine zV_aload_n dX7_init_161 rfl 0 rfl rfl ?_
  refine zV_getr (q' := 77) 0 dX7_init_162 rfl fl_RX7_9 rfl (by decide) rfl rfl ?_
  refine zV_iconst (v := (nI 3)) dX7_init_165 rfl rfl ?_
  refine zV_iload_n dX7_init_166 rfl 1 rfl rfl ?_
  refine zA_iadd (z := (nI 3)) dX7_init_167 rfl  (rfl) ?_
  refine zV_iconst (v := (-1)) dX7_init_168 rfl rfl ?_
  refine zV_iastore 3 dX7_init_169 rfl rfl rfl (by decide) (by decide)  ?_
  refine zV_iinc (y := (nI 1)) (lv' := [(0, .ref 76), (1, .int (nI 1))]) dX7_init_170 rfl 1 rfl (rfl) (by decide) rfl ?_
  refine zV_goto (tgt := 155) dX7_init_173 rfl ?_
  refine zV_iload_n dX7_init_155 rfl 1 rfl rfl ?_
  refine zV_bipush (v := (nI 10)) dX7_init_156 rfl rfl ?_
  refine zN_icmp_ge (tgt := 176) dX7_init_158 rfl rfl (by decide) (by decide) (fun z => absurd z (by decide)) (fun _ => ?_)
  refine zV_aload_n dX7_init_161 rfl 0 rfl rfl ?_
  refine zV_getr (q' := 77) 0 dX7_init_162 rfl fl_RX7_9 rfl (by decide) rfl rfl ?_
  refine zV_iconst (v := (nI 3)) dX7_init_165 rfl rfl ?_
  refine zV_iload_n dX7_init_166 rfl 1 rfl rfl ?_
  refine zA_iadd (z := (nI 4)) dX7_init_167 rfl  (rfl) ?_
  refine zV_iconst (v := (-1)) dX7_init_168 rfl rfl ?_
  refine zV_iastore 4 dX7_init_169 rfl rfl rfl (by decide) (by decide)  ?_
  refine zV_iinc (y := (nI 2)) (lv' := [(0, .ref 76), (1, .int (nI 2))]) dX7_init_170 rfl 1 rfl (rfl) (by decide) rfl ?_
  refine zV_goto (tgt := 155) dX7_init_173 rfl ?_
  refine zV_iload_n dX7_init_155 rfl 1 rfl rfl ?_
  refine zV_bipush (v := (nI 10)) dX7_init_156 rfl rfl ?_
  refine zN_icmp_ge (tgt := 176) dX7_init_158 rfl rfl (by decide) (by decide) (fun z => absurd z (by decide)) (fun _ => ?_)
  refine zV_aload_n dX7_init_161 rfl 0 rfl rfl ?_
  refine zV_getr (q' := 77) 0 dX7_init_162 rfl fl_RX7_9 rfl (by decide) rfl rfl ?_
  refine zV_iconst (v := (nI 3)) dX7_init_165 rfl rfl ?_
  refine zV_iload_n dX7_init_166 rfl 1 rfl rfl ?_
  refine zA_iadd (z := (nI 5)) dX7_init_167 rfl  (rfl) ?_
  refine zV_iconst (v := (-1)) dX7_init_168 rfl rfl ?_
  refine zV_iastore 5 dX7_init_169 rfl rfl rfl (by decide) (by decide)  ?_
  refine zV_iinc (y := (nI 3)) (lv' := [(0, .ref 76), (1, .int (nI 3))]) dX7_init_170 rfl 1 rfl (rfl) (by decide) rfl ?_
  refine zV_goto (tgt := 155) dX7_init_173 rfl ?_
  refine zV_iload_n dX7_init_155 rfl 1 rfl rfl ?_
  refine zV_bipush (v := (nI 10)) dX7_init_156 rfl rfl ?_
  refine zN_icmp_ge (tgt := 176) dX7_init_158 rfl rfl (by decide) (by decide) (fun z => absurd z (by decide)) (fun _ => ?_)
  refine zV_aload_n dX7_init_161 rfl 0 rfl rfl ?_
  refine zV_getr (q' := 77) 0 dX7_init_162 rfl fl_RX7_9 rfl (by decide) rfl rfl ?_
  refine zV_iconst (v := (nI 3)) dX7_init_165 rfl rfl ?_
  refine zV_iload_n dX7_init_166 rfl 1 rfl rfl ?_
  refine zA_iadd (z := (nI 6)) dX7_init_167 rfl  (rfl) ?_
  refine zV_iconst (v := (-1)) dX7_init_168 rfl rfl ?_
  refine zV_iastore 6 dX7_init_169 rfl rfl rfl (by decide) (by decide)  ?_
  refine zV_iinc (y := (nI 4)) (lv' := [(0, .ref 76), (1, .int (nI 4))]) dX7_init_170 rfl 1 rfl (rfl) (by decide) rfl ?_
  refine zV_goto (tgt := 155) dX7_init_173 rfl ?_
  refine zV_iload_n dX7_init_155 rfl 1 rfl rfl ?_
  refine zV_bipush (v := (nI 10)) dX7_init_156 rfl rfl ?_
  refine zN_icmp_ge (tgt := 176) dX7_init_158 rfl rfl (by decide) (by decide) (fun z => absurd z (by decide)) (fun _ => ?_)
  refine zV_aload_n dX7_init_161 rfl 0 rfl rfl ?_
  refine zV_getr (q' := 77) 0 dX7_init_162 rfl fl_RX7_9 rfl (by decide) rfl rfl ?_
  refine zV_iconst (v := (nI 3)) dX7_init_165 rfl rfl ?_
  refine zV_iload_n dX7_init_166 rfl 1 rfl rfl ?_
  refine zA_iadd (z := (nI 7)) dX7_init_167 rfl  (rfl) ?_
  refine zV_iconst (v := (-1)) dX7_init_168 rfl rfl ?_
  refine zV_iastore 7 dX7_init_169 rfl rfl rfl (by decide) (by decide)  ?_
  refine zV_iinc (y := (nI 5)) (lv' := [(0, .ref 76), (1, .int (nI 5))]) dX7_init_170 rfl 1 rfl (rfl) (by decide) rfl ?_
  refine zV_goto (tgt := 155) dX7_init_173 rfl ?_
  refine zV_iload_n dX7_init_155 rfl 1 rfl rfl ?_
  refine zV_bipush (v := (nI 10)) dX7_init_156 rfl rfl ?_
  refine zN_icmp_ge (tgt := 176) dX7_init_158 rfl rfl (by decide) (by decide) (fun z => absurd z (by decide)) (fun _ => ?_)
  refine zV_aload_n dX7_init_161 rfl 0 rfl rfl ?_
  refine zV_getr (q' := 77) 0 dX7_init_162 rfl fl_RX7_9 rfl (by decide) rfl rfl ?_
  refine zV_iconst (v := (nI 3)) dX7_init_165 rfl rfl ?_
  refine zV_iload_n dX7_init_166 rfl 1 rfl rfl ?_
  refine zA_iadd (z := (nI 8)) dX7_init_167 rfl  (rfl) ?_
  refine zV_iconst (v := (-1)) dX7_init_168 rfl rfl ?_
  refine zV_iastore 8 dX7_init_169 rfl rfl rfl (by decide) (by decide)  ?_
  refine zV_iinc (y := (nI 6)) (lv' := [(0, .ref 76), (1, .int (nI 6))]) dX7_init_170 rfl 1 rfl (rfl) (by decide) rfl ?_
  refine zV_goto (tgt := 155) dX7_init_173 rfl ?_
  refine zV_iload_n dX7_init_155 rfl 1 rfl rfl ?_
  refine zV_bipush (v := (nI 10)) dX7_init_156 rfl rfl ?_
  refine zN_icmp_ge (tgt := 176) dX7_init_158 rfl rfl (by decide) (by decide) (fun z => absurd z (by decide)) (fun _ => ?_)
  refine zV_aload_n dX7_init_161 rfl 0 rfl rfl ?_
  refine zV_getr (q' := 77) 0 dX7_init_162 rfl fl_RX7_9 rfl (by decide) rfl rfl ?_
  refine zV_iconst (v := (nI 3)) dX7_init_165 rfl rfl ?_
  refine zV_iload_n dX7_init_166 rfl 1 rfl rfl ?_
  refine zA_iadd (z := (nI 9)) dX7_init_167 rfl  (rfl) ?_
  refine zV_iconst (v := (-1)) dX7_init_168 rfl rfl ?_
  refine zV_iastore 9 dX7_init_169 rfl rfl rfl (by decide) (by decide)  ?_
  refine zV_iinc (y := (nI 7)) (lv' := [(0, .ref 76), (1, .int (nI 7))]) dX7_init_170 rfl 1 rfl (rfl) (by decide) rfl ?_
  refine zV_goto (tgt := 155) dX7_init_173 rfl ?_
  refine zV_iload_n dX7_init_155 rfl 1 rfl rfl ?_
  refine zV_bipush (v := (nI 10)) dX7_init_156 rfl rfl ?_
  refine zN_icmp_ge (tgt := 176) dX7_init_158 rfl rfl (by decide) (by decide) (fun z => absurd z (by decide)) (fun _ => ?_)
  refine zV_aload_n dX7_init_161 rfl 0 rfl rfl ?_
  refine zV_getr (q' := 77) 0 dX7_init_162 rfl fl_RX7_9 rfl (by decide) rfl rfl ?_
  refine zV_iconst (v := (nI 3)) dX7_init_165 rfl rfl ?_
  refine zV_iload_n dX7_init_166 rfl 1 rfl rfl ?_
  refine zA_iadd (z := (nI 10)) dX7_init_167 rfl  (rfl) ?_
  refine zV_iconst (v := (-1)) dX7_init_168 rfl rfl ?_
  refine zV_iastore 10 dX7_init_169 rfl rfl rfl (by decide) (by decide)  ?_
  refine zV_iinc (y := (nI 8)) (lv' := [(0, .ref 76), (1, .int (nI 8))]) dX7_init_170 rfl 1 rfl (rfl) (by decide) rfl ?_
  refine zV_goto (tgt := 155) dX7_init_173 rfl ?_
  refine zV_iload_n dX7_init_155 rfl 1 rfl rfl ?_
  refine zV_bipush (v := (nI 10)) dX7_init_156 rfl rfl ?_
  refine zN_icmp_ge (tgt := 176) dX7_init_158 rfl rfl (by decide) (by decide) (fun z => absurd z (by decide)) (fun _ => ?_)
  refine zV_aload_n dX7_init_161 rfl 0 rfl rfl ?_
  refine zV_getr (q' := 77) 0 dX7_init_162 rfl fl_RX7_9 rfl (by decide) rfl rfl ?_
  refine zV_iconst (v := (nI 3)) dX7_init_165 rfl rfl ?_
  refine zV_iload_n dX7_init_166 rfl 1 rfl rfl ?_
  refine zA_iadd (z := (nI 11)) dX7_init_167 rfl  (rfl) ?_
  refine zV_iconst (v := (-1)) dX7_init_168 rfl rfl ?_
  refine zV_iastore 11 dX7_init_169 rfl rfl rfl (by decide) (by decide)  ?_
  refine zV_iinc (y := (nI 9)) (lv' := [(0, .ref 76), (1, .int (nI 9))]) dX7_init_170 rfl 1 rfl (rfl) (by decide) rfl ?_
  refine zV_goto (tgt := 155) dX7_init_173 rfl ?_
  refine zV_iload_n dX7_init_155 rfl 1 rfl rfl ?_
  refine zV_bipush (v := (nI 10)) dX7_init_156 rfl rfl ?_
  refine zN_icmp_ge (tgt := 176) dX7_init_158 rfl rfl (by decide) (by decide) (fun z => absurd z (by decide)) (fun _ => ?_)
  refine zV_aload_n dX7_init_161 rfl 0 rfl rfl ?_
  refine zV_getr (q' := 77) 0 dX7_init_162 rfl fl_RX7_9 rfl (by decide) rfl rfl ?_
  refine zV_iconst (v := (nI 3)) dX7_init_165 rfl rfl ?_
  refine zV_iload_n dX7_init_166 rfl 1 rfl rfl ?_
  refine zA_iadd (z := (nI 12)) dX7_init_167 rfl  (rfl) ?_
  refine zV_iconst (v := (-1)) dX7_init_168 rfl rfl ?_
  refine zV_iastore 12 dX7_init_169 rfl rfl rfl (by decide) (by decide)  ?_
  refine zV_iinc (y := (nI 10)) (lv' := [(0, .ref 76), (1, .int (nI 10))]) dX7_init_170 rfl 1 rfl (rfl) (by decide) rfl ?_
  refine zV_goto (tgt := 155) dX7_init_173 rfl ?_
  refine zV_iload_n dX7_init_155 rfl 1 rfl rfl ?_
  refine zV_bipush (v := (nI 10)) dX7_init_156 rfl rfl ?_
  refine zN_icmp_ge (tgt := 176) dX7_init_158 rfl rfl (by decide) (by decide) (fun _ => ?_) (fun z => absurd z (by decide))
  exact zV_return dX7_init_176 rfl (⟨rfl, rfl, (gn_I (q := 77) (k := 12) (v := (-1)) (gn_I (q := 77) (k := 11) (v := (-1)) (gn_I (q := 77) (k := 10) (v := (-1)) (gn_I (q := 77) (k := 9) (v := (-1)) (gn_I (q := 77) (k := 8) (v := (-1)) (gn_I (q := 77) (k := 7) (v := (-1)) (gn_I (q := 77) (k := 6) (v := (-1)) (gn_I (q := 77) (k := 5) (v := (-1)) (gn_I (q := 77) (k := 4) (v := (-1)) (gn_I (q := 77) (k := 3) (v := (-1)) (gn_I (q := 77) (k := 2) (v := (nI 1)) (gn_R (q := 76) (k := 24) (v := some 89) gn90 (by decide)) (by decide)) (by decide)) (by decide)) (by decide)) (by decide)) (by decide)) (by decide)) (by decide)) (by decide)) (by decide)) (by decide))⟩)
