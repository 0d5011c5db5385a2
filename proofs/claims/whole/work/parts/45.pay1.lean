/-! payments: small methods -/
set_option maxRecDepth 100000 in
theorem c_withSets {G : mG} {I : Nat → Nat → Int32} {J : Nat → Nat → Int64} {t : Nat} {a g k : Nat} (hg : g < 1024) (hk : k < 1024) : zC G yX5_withSets (eX5_withSets (g_rmv 0)) [.long (lN a), .int (nI g), .int (nI k)] (mm I J t) (fun r M => r = some (.long (lN ((a * 1024 + g) * 1024 + k))) ∧ M = mm I J t) := by
  refine zC_of (by decide +kernel) rfl (by decide) (Nat.le_of_ble_eq_true rfl) ?_
  show zV G (eX5_withSets (g_rmv 0)) (0, 0) 0 [(0, .long (lN a)), (2, .int (nI g)), (3, .int (nI k))] [] (mm I J t) _
  refine zV_lload_n dX5_withSets_0 rfl 0 rfl rfl ?_
  refine zV_ldc2 (v := (1024)) dX5_withSets_1 rfl tw480 ?_
  refine zA_lmul (z := (lN (a * 1024))) dX5_withSets_4 rfl  ((lN_mul _ 1024)) ?_
  refine zV_iload_n dX5_withSets_5 rfl 1 rfl rfl ?_
  refine zA_i2l (z := (lN g)) dX5_withSets_6 rfl (nI_l (by omega)) ?_
  refine zA_ladd (z := (lN (a * 1024 + g))) dX5_withSets_7 rfl  (lN_add _ _) ?_
  refine zV_ldc2 (v := (1024)) dX5_withSets_8 rfl tw480 ?_
  refine zA_lmul (z := (lN ((a * 1024 + g) * 1024))) dX5_withSets_11 rfl  ((lN_mul _ 1024)) ?_
  refine zV_iload_n dX5_withSets_12 rfl 2 rfl rfl ?_
  refine zA_i2l (z := (lN k)) dX5_withSets_13 rfl (nI_l (by omega)) ?_
  refine zA_ladd (z := (lN ((a * 1024 + g) * 1024 + k))) dX5_withSets_14 rfl  (lN_add _ _) ?_
  exact zV_lreturn dX5_withSets_15 rfl (⟨rfl, rfl⟩)

set_option maxRecDepth 100000 in
theorem c_minL {G : mG} {I : Nat → Nat → Int32} {J : Nat → Nat → Int64} {t : Nat} {a b : Nat} (ha : a < 2 ^ 62) (hb : b < 2 ^ 62) : zC G yJ9_min_f86c9 (eJ9_min_f86c9 (g_rmv 0)) [.long (lN a), .long (lN b)] (mm I J t) (fun r M => r = some (.long (lN (min a b))) ∧ M = mm I J t) := by
  refine zC_of (by decide +kernel) rfl (by decide) (Nat.le_of_ble_eq_true rfl) ?_
  show zV G (eJ9_min_f86c9 (g_rmv 0)) (0, 0) 0 [(0, .long (lN a)), (2, .long (lN b))] [] (mm I J t) _
  refine zV_lload_n dJ9_min_f86c9_0 rfl 0 rfl rfl ?_
  refine zV_lload_n dJ9_min_f86c9_1 rfl 1 rfl rfl ?_
  refine zA_lcmp (z := (lg_cmp (lN a) (lN b))) dJ9_min_f86c9_2 rfl  (rfl) ?_
  refine zV_if_gt (tgt := 10) dJ9_min_f86c9_3 rfl rfl  (fun h3 => ?_) (fun h3 => ?_)
  · refine zV_lload_n dJ9_min_f86c9_10 rfl 1 rfl rfl ?_
    exact zV_lreturn dJ9_min_f86c9_11 rfl (⟨by rw [Nat.min_eq_right (Nat.le_of_lt ((pk_lLT (by omega) (by omega)).mp ((lgc _ _).mp h3)))], rfl⟩)
  · refine zV_lload_n dJ9_min_f86c9_6 rfl 0 rfl rfl ?_
    refine zV_goto (tgt := 11) dJ9_min_f86c9_7 rfl ?_
    exact zV_lreturn dJ9_min_f86c9_11 rfl (⟨by rw [Nat.min_eq_left (Nat.not_lt.mp (fun z => h3 ((lgc _ _).mpr ((pk_lLT (by omega) (by omega)).mpr z))))], rfl⟩)

set_option maxRecDepth 100000 in
theorem c_takeSets {G : mG} {I : Nat → Nat → Int32} {J : Nat → Nat → Int64} {t : Nat} {a : Nat} (ha : a < 2 ^ 62) : zC G yX5_takeSets (eX5_takeSets (g_rmv 0)) [.ref 61, .long (lN a)] (mm I J t) (fun r M => r = none ∧ M = mm (up2 (up2 I 61 6 (nI (a / 1024 % 1024))) 61 7 (nI (a % 1024))) J t) := by
  refine zC_of (by decide +kernel) rfl (by decide) (Nat.le_of_ble_eq_true rfl) ?_
  show zV G (eX5_takeSets (g_rmv 0)) (0, 0) 0 [(0, .ref 61), (1, .long (lN a))] [] (mm I J t) _
  refine zV_aload_n dX5_takeSets_0 rfl 0 rfl rfl ?_
  refine zV_lload_n dX5_takeSets_1 rfl 1 rfl rfl ?_
  refine zV_ldc2 (v := (1024)) dX5_takeSets_2 rfl tw480 ?_
  refine zA_ldiv (z := (lN (a / 1024))) dX5_takeSets_5 rfl (by decide) ((pk_lDiv (b := 1024) (by omega) (by decide) (by decide))) ?_
  refine zV_ldc2 (v := (1024)) dX5_takeSets_6 rfl tw480 ?_
  refine zA_lrem (z := (lN (a / 1024 % 1024))) dX5_takeSets_9 rfl (by decide) ((pk_lRem (b := 1024) (by omega) (by decide) (by decide))) ?_
  refine zA_l2i (z := (nI (a / 1024 % 1024))) dX5_takeSets_10 rfl (lN_i _) ?_
  refine zV_puti 6 dX5_takeSets_11 rfl fl_RX5_31 rfl (by decide) rfl rfl rfl ?_
  refine zV_aload_n dX5_takeSets_14 rfl 0 rfl rfl ?_
  refine zV_lload_n dX5_takeSets_15 rfl 1 rfl rfl ?_
  refine zV_ldc2 (v := (1024)) dX5_takeSets_16 rfl tw480 ?_
  refine zA_lrem (z := (lN (a % 1024))) dX5_takeSets_19 rfl (by decide) ((pk_lRem (b := 1024) (by omega) (by decide) (by decide))) ?_
  refine zA_l2i (z := (nI (a % 1024))) dX5_takeSets_20 rfl (lN_i _) ?_
  refine zV_puti 7 dX5_takeSets_21 rfl fl_RX5_34 rfl (by decide) rfl rfl rfl ?_
  exact zV_return dX5_takeSets_24 rfl (⟨rfl, rfl⟩)

set_option maxRecDepth 100000 in
theorem m_isAhead {G : mG} {I : Nat → Nat → Int32} {J : Nat → Nat → Int64} {t : Nat} {B : Nat} {σ : aL} (hW : wfL B σ) {p q x b : Nat} (hpq : p ≠ q) (hx : isSub (ld_u σ p q) x = true) (hb : isSub (ld_u σ p q) b = true) (hG : I 76 6 = nI (gv σ p b)) (hK : I 76 7 = nI (gv σ q b)) (hCo : I 76 8 = cs σ p q b) : zC G yX7_isAhead (eX7_isAhead (g_rmv 1)) [.ref 76, .int (cs σ p q x), .int (nI (gv σ p x)), .int (nI (gv σ q x))] (mm I J t) (fun r M => r = some (.int (b2 (rnk σ p q x < rnk σ p q b))) ∧ M = mm I J t) := by
  refine zC_of (by decide +kernel) rfl (by decide) (Nat.le_of_ble_eq_true rfl) ?_
  have n10 := hW.1
  have g1 := gv_lt n10 p x
  have g2 := gv_lt n10 q x
  have g3 := gv_lt n10 p b
  have g4 := gv_lt n10 q b
  have p1 := pcnt_le x
  have p2 := pcnt_le b
  have rl := rnk_lt hW p q x b
  have cl := cs_lt hW p q x b
  have ce := cs_eq hW p q x b
  have q1 := pcnt_le (gv σ p x)
  have q2 := pcnt_le (gv σ q x)
  have q3 := pcnt_le (gv σ p b)
  have q4 := pcnt_le (gv σ q b)
  have dz : (nI (pcnt x) - nI (pcnt b)).toInt = (pcnt x : Int) - pcnt b := pk_sub_toInt (by omega) (by omega)
  show zV G (eX7_isAhead (g_rmv 1)) (0, 0) 0 [(0, .ref 76), (1, .int (cs σ p q x)), (2, .int (nI (gv σ p x))), (3, .int (nI (gv σ q x)))] [] (mm I J t) _
  refine zV_aload_n dX7_isAhead_0 rfl 0 rfl rfl ?_
  refine zV_getI (x := (nI (gv σ p b))) 6 dX7_isAhead_1 rfl fl_RX7_179 rfl (by decide) rfl hG ?_
  refine zN_if_lt (tgt := 15) dX7_isAhead_4 rfl (by omega) rfl ?_
  refine zV_iload_n dX7_isAhead_7 rfl 1 rfl rfl ?_
  refine zV_aload_n dX7_isAhead_8 rfl 0 rfl rfl ?_
  refine zV_getI (x := (cs σ p q b)) 8 dX7_isAhead_9 rfl fl_RX7_183 rfl (by decide) rfl hCo ?_
  refine zV_icmp_eq (tgt := 36) dX7_isAhead_12 rfl rfl  (fun h12 => ?_) (fun h12 => ?_)
  · have c12 := ce.mp h12
    refine zV_iload_n dX7_isAhead_36 rfl 2 rfl rfl ?_
    refine zV_callS (E' := eX7_bits (g_rmv 0)) (av := [.int (nI (gv σ p x))]) (st := []) dX7_isAhead_37 rfl (k_RX7_186 _) rfl ⟨by decide, by decide⟩ ⟨by decide, by decide⟩ (Or.inl rfl) rfl (Nat.le_of_ble_eq_true rfl) (m_bits (s := (gv σ p x)) (by omega)) (fun r37 M37 z => ?_)
    obtain ⟨rfl, rfl⟩ := z
    show zV G (eX7_isAhead (g_rmv 1)) (0, 0) 40 [(0, .ref 76), (1, .int (cs σ p q x)), (2, .int (nI (gv σ p x))), (3, .int (nI (gv σ q x)))] [.int (nI (pcnt (gv σ p x)))] (mm I J t) _
    refine zV_iload_n dX7_isAhead_40 rfl 3 rfl rfl ?_
    refine zV_callS (E' := eX7_bits (g_rmv 0)) (av := [.int (nI (gv σ q x))]) (st := [.int (nI (pcnt (gv σ p x)))]) dX7_isAhead_41 rfl (k_RX7_186 _) rfl ⟨by decide, by decide⟩ ⟨by decide, by decide⟩ (Or.inl rfl) rfl (Nat.le_of_ble_eq_true rfl) (m_bits (s := (gv σ q x)) (by omega)) (fun r41 M41 z => ?_)
    obtain ⟨rfl, rfl⟩ := z
    show zV G (eX7_isAhead (g_rmv 1)) (0, 0) 44 [(0, .ref 76), (1, .int (cs σ p q x)), (2, .int (nI (gv σ p x))), (3, .int (nI (gv σ q x)))] [.int (nI (pcnt (gv σ q x))), .int (nI (pcnt (gv σ p x)))] (mm I J t) _
    refine zA_iadd (z := (nI ((pcnt (gv σ p x)) + (pcnt (gv σ q x))))) dX7_isAhead_44 rfl  (nI_add _ _) ?_
    refine zV_aload_n dX7_isAhead_45 rfl 0 rfl rfl ?_
    refine zV_getI (x := (nI (gv σ p b))) 6 dX7_isAhead_46 rfl fl_RX7_179 rfl (by decide) rfl hG ?_
    refine zV_callS (E' := eX7_bits (g_rmv 0)) (av := [.int (nI (gv σ p b))]) (st := [.int (nI ((pcnt (gv σ p x)) + (pcnt (gv σ q x))))]) dX7_isAhead_49 rfl (k_RX7_186 _) rfl ⟨by decide, by decide⟩ ⟨by decide, by decide⟩ (Or.inl rfl) rfl (Nat.le_of_ble_eq_true rfl) (m_bits (s := (gv σ p b)) (by omega)) (fun r49 M49 z => ?_)
    obtain ⟨rfl, rfl⟩ := z
    show zV G (eX7_isAhead (g_rmv 1)) (0, 0) 52 [(0, .ref 76), (1, .int (cs σ p q x)), (2, .int (nI (gv σ p x))), (3, .int (nI (gv σ q x)))] [.int (nI (pcnt (gv σ p b))), .int (nI ((pcnt (gv σ p x)) + (pcnt (gv σ q x))))] (mm I J t) _
    refine zA_isub (z := ((nI (pcnt (gv σ p x) + pcnt (gv σ q x))) - nI (pcnt (gv σ p b)))) dX7_isAhead_52 rfl  (rfl) ?_
    refine zV_aload_n dX7_isAhead_53 rfl 0 rfl rfl ?_
    refine zV_getI (x := (nI (gv σ q b))) 7 dX7_isAhead_54 rfl fl_RX7_189 rfl (by decide) rfl hK ?_
    refine zV_callS (E' := eX7_bits (g_rmv 0)) (av := [.int (nI (gv σ q b))]) (st := [.int ((nI (pcnt (gv σ p x) + pcnt (gv σ q x))) - nI (pcnt (gv σ p b)))]) dX7_isAhead_57 rfl (k_RX7_186 _) rfl ⟨by decide, by decide⟩ ⟨by decide, by decide⟩ (Or.inl rfl) rfl (Nat.le_of_ble_eq_true rfl) (m_bits (s := (gv σ q b)) (by omega)) (fun r57 M57 z => ?_)
    obtain ⟨rfl, rfl⟩ := z
    show zV G (eX7_isAhead (g_rmv 1)) (0, 0) 60 [(0, .ref 76), (1, .int (cs σ p q x)), (2, .int (nI (gv σ p x))), (3, .int (nI (gv σ q x)))] [.int (nI (pcnt (gv σ q b))), .int ((nI (pcnt (gv σ p x) + pcnt (gv σ q x))) - nI (pcnt (gv σ p b)))] (mm I J t) _
    refine zA_isub (z := (nI (pcnt x) - nI (pcnt b))) dX7_isAhead_60 rfl  (by rw [pcnt_gv hpq hx, pcnt_gv hpq hb, ← nI_add (pcnt (gv σ p b)), i_sb, Int32.sub_eq_add_neg]) ?_
    refine zV_istore (lv' := [(0, .ref 76), (1, .int (cs σ p q x)), (2, .int (nI (gv σ p x))), (3, .int (nI (gv σ q x))), (4, .int (nI (pcnt x) - nI (pcnt b)))]) dX7_isAhead_61 rfl (by decide) rfl ?_
    refine zV_iload dX7_isAhead_63 rfl 4 rfl ?_
    refine zV_if_eq (tgt := 81) dX7_isAhead_65 rfl rfl  (fun h65 => ?_) (fun h65 => ?_)
    · have c65 : pcnt x = pcnt b := by have z := congrArg Int32.toInt h65; rw [dz, show (0 : Int32).toInt = 0 from rfl] at z; omega
      refine zV_iload_n dX7_isAhead_81 rfl 2 rfl rfl ?_
      refine zV_aload_n dX7_isAhead_82 rfl 0 rfl rfl ?_
      refine zV_getI (x := (nI (gv σ p b))) 6 dX7_isAhead_83 rfl fl_RX7_179 rfl (by decide) rfl hG ?_
      refine zN_icmp_eq (tgt := 105) dX7_isAhead_86 rfl rfl (by omega) (by omega) (fun h86 => ?_) (fun h86 => ?_)
      · refine zV_iload_n dX7_isAhead_105 rfl 3 rfl rfl ?_
        refine zV_aload_n dX7_isAhead_106 rfl 0 rfl rfl ?_
        refine zV_getI (x := (nI (gv σ q b))) 7 dX7_isAhead_107 rfl fl_RX7_189 rfl (by decide) rfl hK ?_
        refine zN_icmp_ge (tgt := 117) dX7_isAhead_110 rfl rfl (by omega) (by omega) (fun h110 => ?_) (fun h110 => ?_)
        · refine zV_iconst (v := (nI 0)) dX7_isAhead_117 rfl rfl ?_
          exact zV_ireturn dX7_isAhead_118 rfl rfl (⟨z_b0 (by rw [rl]; omega), rfl⟩)
        · refine zV_iconst (v := (nI 1)) dX7_isAhead_113 rfl rfl ?_
          refine zV_goto (tgt := 118) dX7_isAhead_114 rfl ?_
          exact zV_ireturn dX7_isAhead_118 rfl rfl (⟨z_b1 (by rw [rl]; omega), rfl⟩)
      · refine zV_iload_n dX7_isAhead_89 rfl 2 rfl rfl ?_
        refine zV_aload_n dX7_isAhead_90 rfl 0 rfl rfl ?_
        refine zV_getI (x := (nI (gv σ p b))) 6 dX7_isAhead_91 rfl fl_RX7_179 rfl (by decide) rfl hG ?_
        refine zN_icmp_ge (tgt := 101) dX7_isAhead_94 rfl rfl (by omega) (by omega) (fun h94 => ?_) (fun h94 => ?_)
        · refine zV_iconst (v := (nI 0)) dX7_isAhead_101 rfl rfl ?_
          refine zV_goto (tgt := 118) dX7_isAhead_102 rfl ?_
          exact zV_ireturn dX7_isAhead_118 rfl rfl (⟨z_b0 (by rw [rl]; omega), rfl⟩)
        · refine zV_iconst (v := (nI 1)) dX7_isAhead_97 rfl rfl ?_
          refine zV_goto (tgt := 118) dX7_isAhead_98 rfl ?_
          exact zV_ireturn dX7_isAhead_118 rfl rfl (⟨z_b1 (by rw [rl]; omega), rfl⟩)
    · have c65 : pcnt x ≠ pcnt b := fun z => h65 (by rw [z]; exact Int32.sub_self _)
      refine zV_iload dX7_isAhead_68 rfl 4 rfl ?_
      refine zV_if_ge (tgt := 77) dX7_isAhead_70 rfl rfl  (fun h70 => ?_) (fun h70 => ?_)
      · have c70 : pcnt b ≤ pcnt x := by have z := Int32.le_iff_toInt_le.mp h70; rw [dz, show (0 : Int32).toInt = 0 from rfl] at z; omega
        refine zV_iconst (v := (nI 0)) dX7_isAhead_77 rfl rfl ?_
        refine zV_goto (tgt := 118) dX7_isAhead_78 rfl ?_
        exact zV_ireturn dX7_isAhead_118 rfl rfl (⟨z_b0 (by rw [rl]; omega), rfl⟩)
      · have c70 : pcnt x < pcnt b := by have z := Int32.lt_iff_toInt_lt.mp (Int32.not_le.mp h70); rw [dz, show (0 : Int32).toInt = 0 from rfl] at z; omega
        refine zV_iconst (v := (nI 1)) dX7_isAhead_73 rfl rfl ?_
        refine zV_goto (tgt := 118) dX7_isAhead_74 rfl ?_
        exact zV_ireturn dX7_isAhead_118 rfl rfl (⟨z_b1 (by rw [rl]; omega), rfl⟩)
  · have c12 : ¬ csN σ p q x = csN σ p q b := fun z => h12 (ce.mpr z)
    refine zV_aload_n dX7_isAhead_15 rfl 0 rfl rfl ?_
    refine zV_getI (x := (nI (gv σ p b))) 6 dX7_isAhead_16 rfl fl_RX7_179 rfl (by decide) rfl hG ?_
    refine zN_if_lt (tgt := 30) dX7_isAhead_19 rfl (by omega) rfl ?_
    refine zV_iload_n dX7_isAhead_22 rfl 1 rfl rfl ?_
    refine zV_aload_n dX7_isAhead_23 rfl 0 rfl rfl ?_
    refine zV_getI (x := (cs σ p q b)) 8 dX7_isAhead_24 rfl fl_RX7_183 rfl (by decide) rfl hCo ?_
    refine zV_icmp_ge (tgt := 34) dX7_isAhead_27 rfl rfl  (fun h27 => ?_) (fun h27 => ?_)
    · have c27 : ¬ csN σ p q x < csN σ p q b := fun z => absurd (cl.mpr z) (Int32.not_lt.mpr h27)
      refine zV_iconst (v := (nI 0)) dX7_isAhead_34 rfl rfl ?_
      exact zV_ireturn dX7_isAhead_35 rfl rfl (⟨z_b0 (by rw [rl]; omega), rfl⟩)
    · have c27 := cl.mp (Int32.not_le.mp h27)
      refine zV_iconst (v := (nI 1)) dX7_isAhead_30 rfl rfl ?_
      refine zV_goto (tgt := 35) dX7_isAhead_31 rfl ?_
      exact zV_ireturn dX7_isAhead_35 rfl rfl (⟨z_b1 (by rw [rl]; omega), rfl⟩)

set_option maxRecDepth 100000 in
theorem m_isAhead0 {G : mG} {I : Nat → Nat → Int32} {J : Nat → Nat → Int64} {t : Nat} (hG : I 76 6 = -1) {c : Int32} {g k : Nat} : zC G yX7_isAhead (eX7_isAhead (g_rmv 1)) [.ref 76, .int c, .int (nI g), .int (nI k)] (mm I J t) (fun r M => r = some (.int (nI 1)) ∧ M = mm I J t) := by
  refine zC_of (by decide +kernel) rfl (by decide) (Nat.le_of_ble_eq_true rfl) ?_
  show zV G (eX7_isAhead (g_rmv 1)) (0, 0) 0 [(0, .ref 76), (1, .int c), (2, .int (nI g)), (3, .int (nI k))] [] (mm I J t) _
  refine zV_aload_n dX7_isAhead_0 rfl 0 rfl rfl ?_
  refine zV_getI (x := (-1)) 6 dX7_isAhead_1 rfl fl_RX7_179 rfl (by decide) rfl hG ?_
  refine zV_if_lt (tgt := 15) dX7_isAhead_4 rfl rfl  (fun _ => ?_) (fun z => absurd z (by decide))
  refine zV_aload_n dX7_isAhead_15 rfl 0 rfl rfl ?_
  refine zV_getI (x := (-1)) 6 dX7_isAhead_16 rfl fl_RX7_179 rfl (by decide) rfl hG ?_
  refine zV_if_lt (tgt := 30) dX7_isAhead_19 rfl rfl  (fun _ => ?_) (fun z => absurd z (by decide))
  refine zV_iconst (v := (nI 1)) dX7_isAhead_30 rfl rfl ?_
  refine zV_goto (tgt := 35) dX7_isAhead_31 rfl ?_
  exact zV_ireturn dX7_isAhead_35 rfl rfl (⟨rfl, rfl⟩)
