/-! LANDS: the methods -/
set_option maxRecDepth 100000 in
theorem c_hasCoin {G : mG} {I : Nat → Nat → Int32} {J : Nat → Nat → Int64} {t : Nat} {b B : Nat} {σ : aL} (hb : isLand b) (hA : absL I b σ) (hW : wfL B σ) {x : Int32} : zC G yX1_hasCoin (eX1_hasCoin (g_rmv 0)) [.ref b, .int x] (mm I J t) (fun r M => r = some (.int (b2 (0 ≤ x ∧ x < nI σ.1))) ∧ M = mm I J t) := by
  refine zC_of (by decide +kernel) rfl (by decide) (Nat.le_of_ble_eq_true rfl) ?_
  have n10 := hW.1
  show zV G (eX1_hasCoin (g_rmv 0)) (0, 0) 0 [(0, .ref b), (1, .int x)] [] (mm I J t) _
  refine zV_iload_n dX1_hasCoin_0 rfl 1 rfl rfl ?_
  refine zV_if_lt (tgt := 16) dX1_hasCoin_1 rfl rfl  (fun h1 => ?_) (fun h1 => ?_)
  · refine zV_iconst (v := (nI 0)) dX1_hasCoin_16 rfl rfl ?_
    exact zV_ireturn dX1_hasCoin_17 rfl rfl (⟨z_b0 (by have z0 : (0 : Int32).toInt = 0 := rfl; simp only [Int32.lt_iff_toInt_lt, Int32.le_iff_toInt_le, z0] at h1 ⊢; omega), rfl⟩)
  · refine zV_iload_n dX1_hasCoin_4 rfl 1 rfl rfl ?_
    refine zV_aload_n dX1_hasCoin_5 rfl 0 rfl rfl ?_
    refine zV_getI (x := (nI σ.1)) 2 dX1_hasCoin_6 rfl fl_RX1_21 (sh_land hb) (by decide) rfl hA.1 ?_
    refine zV_icmp_ge (tgt := 16) dX1_hasCoin_9 rfl rfl  (fun h9 => ?_) (fun h9 => ?_)
    · refine zV_iconst (v := (nI 0)) dX1_hasCoin_16 rfl rfl ?_
      exact zV_ireturn dX1_hasCoin_17 rfl rfl (⟨z_b0 (by have z0 : (0 : Int32).toInt = 0 := rfl; simp only [Int32.lt_iff_toInt_lt, Int32.le_iff_toInt_le, z0] at h1 h9 ⊢; omega), rfl⟩)
    · refine zV_iconst (v := (nI 1)) dX1_hasCoin_12 rfl rfl ?_
      refine zV_goto (tgt := 17) dX1_hasCoin_13 rfl ?_
      exact zV_ireturn dX1_hasCoin_17 rfl rfl (⟨z_b1 (by have z0 : (0 : Int32).toInt = 0 := rfl; simp only [Int32.lt_iff_toInt_lt, Int32.le_iff_toInt_le, z0] at h1 h9 ⊢; omega), rfl⟩)

set_option maxRecDepth 100000 in
theorem c_allCoins {G : mG} {I : Nat → Nat → Int32} {J : Nat → Nat → Int64} {t : Nat} {b B : Nat} {σ : aL} (hb : isLand b) (hA : absL I b σ) (hW : wfL B σ) : zC G yX1_allCoins (eX1_allCoins (g_rmv 0)) [.ref b] (mm I J t) (fun r M => r = some (.int (nI (2 ^ σ.1 - 1))) ∧ M = mm I J t) := by
  refine zC_of (by decide +kernel) rfl (by decide) (Nat.le_of_ble_eq_true rfl) ?_
  have n10 := hW.1
  show zV G (eX1_allCoins (g_rmv 0)) (0, 0) 0 [(0, .ref b)] [] (mm I J t) _
  refine zV_iconst (v := (nI 1)) dX1_allCoins_0 rfl rfl ?_
  refine zV_aload_n dX1_allCoins_1 rfl 0 rfl rfl ?_
  refine zV_getI (x := (nI σ.1)) 2 dX1_allCoins_2 rfl fl_RX1_21 (sh_land hb) (by decide) rfl hA.1 ?_
  refine zA_ishl (z := (nI (2 ^ σ.1))) dX1_allCoins_5 rfl  (z_shl1 (by omega)) ?_
  refine zV_iconst (v := (nI 1)) dX1_allCoins_6 rfl rfl ?_
  refine zA_isub (z := (nI (2 ^ σ.1 - 1))) dX1_allCoins_7 rfl  (pk_sub Nat.one_le_two_pow) ?_
  exact zV_ireturn dX1_allCoins_8 rfl rfl (⟨rfl, rfl⟩)

set_option maxRecDepth 100000 in
theorem c_isWithin {G : mG} {I : Nat → Nat → Int32} {J : Nat → Nat → Int64} {t : Nat} {x y : Int32} : zC G yX6_isWithin (eX6_isWithin (g_rmv 0)) [.int x, .int y] (mm I J t) (fun r M => r = some (.int (b2 (0 ≤ x ∧ x ≤ y))) ∧ M = mm I J t) := by
  refine zC_of (by decide +kernel) rfl (by decide) (Nat.le_of_ble_eq_true rfl) ?_
  show zV G (eX6_isWithin (g_rmv 0)) (0, 0) 0 [(0, .int x), (1, .int y)] [] (mm I J t) _
  refine zV_iload_n dX6_isWithin_0 rfl 0 rfl rfl ?_
  refine zV_if_lt (tgt := 13) dX6_isWithin_1 rfl rfl  (fun h1 => ?_) (fun h1 => ?_)
  · refine zV_iconst (v := (nI 0)) dX6_isWithin_13 rfl rfl ?_
    exact zV_ireturn dX6_isWithin_14 rfl rfl (⟨z_b0 (by have z0 : (0 : Int32).toInt = 0 := rfl; simp only [Int32.lt_iff_toInt_lt, Int32.le_iff_toInt_le, z0] at h1 ⊢; omega), rfl⟩)
  · refine zV_iload_n dX6_isWithin_4 rfl 0 rfl rfl ?_
    refine zV_iload_n dX6_isWithin_5 rfl 1 rfl rfl ?_
    refine zV_icmp_gt (tgt := 13) dX6_isWithin_6 rfl rfl  (fun h6 => ?_) (fun h6 => ?_)
    · refine zV_iconst (v := (nI 0)) dX6_isWithin_13 rfl rfl ?_
      exact zV_ireturn dX6_isWithin_14 rfl rfl (⟨z_b0 (by have z0 : (0 : Int32).toInt = 0 := rfl; simp only [Int32.lt_iff_toInt_lt, Int32.le_iff_toInt_le, z0] at h1 h6 ⊢; omega), rfl⟩)
    · refine zV_iconst (v := (nI 1)) dX6_isWithin_9 rfl rfl ?_
      refine zV_goto (tgt := 14) dX6_isWithin_10 rfl ?_
      exact zV_ireturn dX6_isWithin_14 rfl rfl (⟨z_b1 (by have z0 : (0 : Int32).toInt = 0 := rfl; simp only [Int32.lt_iff_toInt_lt, Int32.le_iff_toInt_le, z0] at h1 h6 ⊢; omega), rfl⟩)

set_option maxRecDepth 100000 in
theorem c_holds {G : mG} {I : Nat → Nat → Int32} {J : Nat → Nat → Int64} {t : Nat} {s c : Nat} (hs : s < 2 ^ 31) (hc : c < 31) : zC G yX6_holds (eX6_holds (g_rmv 0)) [.int (nI s), .int (nI c)] (mm I J t) (fun r M => r = some (.int (b2 (s.testBit c = true))) ∧ M = mm I J t) := by
  refine zC_of (by decide +kernel) rfl (by decide) (Nat.le_of_ble_eq_true rfl) ?_
  show zV G (eX6_holds (g_rmv 0)) (0, 0) 0 [(0, .int (nI s)), (1, .int (nI c))] [] (mm I J t) _
  refine zV_iload_n dX6_holds_0 rfl 0 rfl rfl ?_
  refine zV_iload_n dX6_holds_1 rfl 1 rfl rfl ?_
  refine zA_ishr (z := (nI s >>> (nI c &&& 31))) dX6_holds_2 rfl  (rfl) ?_
  refine zV_iconst (v := (nI 1)) dX6_holds_3 rfl rfl ?_
  refine zA_iand (z := (nI (s / 2 ^ c % 2))) dX6_holds_4 rfl  (z_bit hs hc) ?_
  refine zV_iconst (v := (nI 1)) dX6_holds_5 rfl rfl ?_
  refine zN_icmp_ne (tgt := 13) dX6_holds_6 rfl rfl (by omega) (by omega) (fun h6 => ?_) (fun h6 => ?_)
  · refine zV_iconst (v := (nI 0)) dX6_holds_13 rfl rfl ?_
    exact zV_ireturn dX6_holds_14 rfl rfl (⟨z_b0 (by have e := z_tb s c; simp_all), rfl⟩)
  · refine zV_iconst (v := (nI 1)) dX6_holds_9 rfl rfl ?_
    refine zV_goto (tgt := 14) dX6_holds_10 rfl ?_
    exact zV_ireturn dX6_holds_14 rfl rfl (⟨z_b1 (by have e := z_tb s c; simp_all), rfl⟩)

set_option maxRecDepth 100000 in
theorem c_coinsIn {G : mG} {I : Nat → Nat → Int32} {J : Nat → Nat → Int64} {t : Nat} {b B : Nat} {σ : aL} (hb : isLand b) (hA : absL I b σ) (hW : wfL B σ) {p : Nat} (hp : p < 4) : zC G yX1_coinsIn (eX1_coinsIn (g_rmv 0)) [.ref b, .int (nI p)] (mm I J t) (fun r M => r = some (.int (nI (ld_in σ p))) ∧ M = mm I J t) := by
  refine zC_of (by decide +kernel) rfl (by decide) (Nat.le_of_ble_eq_true rfl) ?_
  have n10 := hW.1
  show zV G (eX1_coinsIn (g_rmv 0)) (0, 0) 0 [(0, .ref b), (1, .int (nI p))] [] (mm I J t) _
  refine zV_iconst (v := (nI 0)) dX1_coinsIn_0 rfl rfl ?_
  refine zV_istore_n (lv' := [(0, .ref b), (1, .int (nI p)), (2, .int (nI 0))]) dX1_coinsIn_1 rfl rfl (by decide) rfl ?_
  refine zV_iconst (v := (nI 0)) dX1_coinsIn_2 rfl rfl ?_
  refine zV_istore_n (lv' := [(0, .ref b), (1, .int (nI p)), (2, .int (nI 0)), (3, .int (nI 0))]) dX1_coinsIn_3 rfl rfl (by decide) rfl ?_
  refine z_for (fun c => zV G (eX1_coinsIn (g_rmv 0)) (0, 0) 4 [(0, .ref b), (1, .int (nI p)), (2, .int (nI (bitsTo (fun c => decide (σ.2.1 c 1 = p)) c))), (3, .int (nI c))] [] (mm I J t) _) σ.1 ?_ ?_ 0 (Nat.zero_le _)
  · skip
    refine zV_iload_n dX1_coinsIn_4 rfl 3 rfl rfl ?_
    refine zV_aload_n dX1_coinsIn_5 rfl 0 rfl rfl ?_
    refine zV_getI (x := (nI σ.1)) 2 dX1_coinsIn_6 rfl fl_RX1_21 (sh_land hb) (by decide) rfl hA.1 ?_
    refine zN_icmp_ge (tgt := 37) dX1_coinsIn_9 rfl rfl (by omega) (by omega) (fun _ => ?_) (fun z => absurd z (by omega))
    refine zV_iload_n dX1_coinsIn_37 rfl 2 rfl rfl ?_
    exact zV_ireturn dX1_coinsIn_38 rfl rfl (⟨rfl, rfl⟩)
  · intro c hc ih
    have w := hW.2.1 c hc
    obtain ⟨w0, w1, w2, w3, w4, w5, w6⟩ := w
    refine zV_iload_n dX1_coinsIn_4 rfl 3 rfl rfl ?_
    refine zV_aload_n dX1_coinsIn_5 rfl 0 rfl rfl ?_
    refine zV_getI (x := (nI σ.1)) 2 dX1_coinsIn_6 rfl fl_RX1_21 (sh_land hb) (by decide) rfl hA.1 ?_
    refine zN_icmp_ge (tgt := 37) dX1_coinsIn_9 rfl rfl (by omega) (by omega) (fun z => absurd z (by omega)) (fun _ => ?_)
    refine zV_aload_n dX1_coinsIn_12 rfl 0 rfl rfl ?_
    refine zV_getr (q' := (b + 1)) 0 dX1_coinsIn_13 rfl fl_RX1_11 (sh_land hb) (by decide) rfl (R_coins hb) ?_
    refine zV_iload_n dX1_coinsIn_16 rfl 3 rfl rfl ?_
    refine zV_aaload (q' := (b + 3 + c)) c dX1_coinsIn_17 rfl (sh_coins hb) rfl (by decide) rfl (by omega) (by decide) (R_coin hb (by omega)) ?_
    refine zV_getI (x := (nI (σ.2.1 c 1))) 1 dX1_coinsIn_18 rfl fl_RX1_55 (sh_coin hb (by omega)) (by decide) rfl (hA.2.1 c hc 1 (by decide)) ?_
    refine zV_iload_n dX1_coinsIn_21 rfl 1 rfl rfl ?_
    refine zN_icmp_ne (tgt := 31) dX1_coinsIn_22 rfl rfl (by omega) (by omega) (fun h22 => ?_) (fun h22 => ?_)
    · refine zV_iinc (y := (nI (c + 1))) (lv' := [(0, .ref b), (1, .int (nI p)), (2, .int (nI (bitsTo (fun c => decide (σ.2.1 c 1 = p)) c))), (3, .int (nI (c + 1)))]) dX1_coinsIn_31 rfl 3 rfl (nI_1 _) (by decide) rfl ?_
      refine zV_goto (tgt := 4) dX1_coinsIn_34 rfl ?_
      rw [show bitsTo (fun c => decide (σ.2.1 c 1 = p)) (c + 1) = (bitsTo (fun c => decide (σ.2.1 c 1 = p)) c) by simp [bitsTo, *]] at ih
      exact ih
    · refine zV_iload_n dX1_coinsIn_25 rfl 2 rfl rfl ?_
      refine zV_iconst (v := (nI 1)) dX1_coinsIn_26 rfl rfl ?_
      refine zV_iload_n dX1_coinsIn_27 rfl 3 rfl rfl ?_
      refine zA_ishl (z := (nI (2 ^ c))) dX1_coinsIn_28 rfl  (z_shl1 (by omega)) ?_
      refine zA_ior (z := (nI ((bitsTo (fun c => decide (σ.2.1 c 1 = p)) c) + (2 ^ c)))) dX1_coinsIn_29 rfl  (z_or (bitsTo_lt _ _)) ?_
      refine zV_istore_n (lv' := [(0, .ref b), (1, .int (nI p)), (2, .int (nI ((bitsTo (fun c => decide (σ.2.1 c 1 = p)) c) + (2 ^ c)))), (3, .int (nI c))]) dX1_coinsIn_30 rfl rfl (by decide) rfl ?_
      refine zV_iinc (y := (nI (c + 1))) (lv' := [(0, .ref b), (1, .int (nI p)), (2, .int (nI ((bitsTo (fun c => decide (σ.2.1 c 1 = p)) c) + (2 ^ c)))), (3, .int (nI (c + 1)))]) dX1_coinsIn_31 rfl 3 rfl (nI_1 _) (by decide) rfl ?_
      refine zV_goto (tgt := 4) dX1_coinsIn_34 rfl ?_
      rw [show bitsTo (fun c => decide (σ.2.1 c 1 = p)) (c + 1) = ((bitsTo (fun c => decide (σ.2.1 c 1 = p)) c) + (2 ^ c)) by simp [bitsTo, *]] at ih
      exact ih

set_option maxRecDepth 100000 in
theorem c_coinsLying {G : mG} {I : Nat → Nat → Int32} {J : Nat → Nat → Int64} {t : Nat} {b B : Nat} {σ : aL} (hb : isLand b) (hA : absL I b σ) (hW : wfL B σ) {p : Nat} (hp : p < 4) : zC G yX1_coinsLying (eX1_coinsLying (g_rmv 0)) [.ref b, .int (nI p)] (mm I J t) (fun r M => r = some (.int (nI (ld_ly σ p))) ∧ M = mm I J t) := by
  refine zC_of (by decide +kernel) rfl (by decide) (Nat.le_of_ble_eq_true rfl) ?_
  have n10 := hW.1
  show zV G (eX1_coinsLying (g_rmv 0)) (0, 0) 0 [(0, .ref b), (1, .int (nI p))] [] (mm I J t) _
  refine zV_iconst (v := (nI 0)) dX1_coinsLying_0 rfl rfl ?_
  refine zV_istore_n (lv' := [(0, .ref b), (1, .int (nI p)), (2, .int (nI 0))]) dX1_coinsLying_1 rfl rfl (by decide) rfl ?_
  refine zV_iconst (v := (nI 0)) dX1_coinsLying_2 rfl rfl ?_
  refine zV_istore_n (lv' := [(0, .ref b), (1, .int (nI p)), (2, .int (nI 0)), (3, .int (nI 0))]) dX1_coinsLying_3 rfl rfl (by decide) rfl ?_
  refine z_for (fun c => zV G (eX1_coinsLying (g_rmv 0)) (0, 0) 4 [(0, .ref b), (1, .int (nI p)), (2, .int (nI (bitsTo (fun c => decide (σ.2.1 c 4 = p)) c))), (3, .int (nI c))] [] (mm I J t) _) σ.1 ?_ ?_ 0 (Nat.zero_le _)
  · skip
    refine zV_iload_n dX1_coinsLying_4 rfl 3 rfl rfl ?_
    refine zV_aload_n dX1_coinsLying_5 rfl 0 rfl rfl ?_
    refine zV_getI (x := (nI σ.1)) 2 dX1_coinsLying_6 rfl fl_RX1_21 (sh_land hb) (by decide) rfl hA.1 ?_
    refine zN_icmp_ge (tgt := 37) dX1_coinsLying_9 rfl rfl (by omega) (by omega) (fun _ => ?_) (fun z => absurd z (by omega))
    refine zV_iload_n dX1_coinsLying_37 rfl 2 rfl rfl ?_
    exact zV_ireturn dX1_coinsLying_38 rfl rfl (⟨rfl, rfl⟩)
  · intro c hc ih
    have w := hW.2.1 c hc
    obtain ⟨w0, w1, w2, w3, w4, w5, w6⟩ := w
    refine zV_iload_n dX1_coinsLying_4 rfl 3 rfl rfl ?_
    refine zV_aload_n dX1_coinsLying_5 rfl 0 rfl rfl ?_
    refine zV_getI (x := (nI σ.1)) 2 dX1_coinsLying_6 rfl fl_RX1_21 (sh_land hb) (by decide) rfl hA.1 ?_
    refine zN_icmp_ge (tgt := 37) dX1_coinsLying_9 rfl rfl (by omega) (by omega) (fun z => absurd z (by omega)) (fun _ => ?_)
    refine zV_aload_n dX1_coinsLying_12 rfl 0 rfl rfl ?_
    refine zV_getr (q' := (b + 1)) 0 dX1_coinsLying_13 rfl fl_RX1_11 (sh_land hb) (by decide) rfl (R_coins hb) ?_
    refine zV_iload_n dX1_coinsLying_16 rfl 3 rfl rfl ?_
    refine zV_aaload (q' := (b + 3 + c)) c dX1_coinsLying_17 rfl (sh_coins hb) rfl (by decide) rfl (by omega) (by decide) (R_coin hb (by omega)) ?_
    refine zV_getI (x := (nI (σ.2.1 c 4))) 4 dX1_coinsLying_18 rfl fl_RX1_64 (sh_coin hb (by omega)) (by decide) rfl (hA.2.1 c hc 4 (by decide)) ?_
    refine zV_iload_n dX1_coinsLying_21 rfl 1 rfl rfl ?_
    refine zN_icmp_ne (tgt := 31) dX1_coinsLying_22 rfl rfl (by omega) (by omega) (fun h22 => ?_) (fun h22 => ?_)
    · refine zV_iinc (y := (nI (c + 1))) (lv' := [(0, .ref b), (1, .int (nI p)), (2, .int (nI (bitsTo (fun c => decide (σ.2.1 c 4 = p)) c))), (3, .int (nI (c + 1)))]) dX1_coinsLying_31 rfl 3 rfl (nI_1 _) (by decide) rfl ?_
      refine zV_goto (tgt := 4) dX1_coinsLying_34 rfl ?_
      rw [show bitsTo (fun c => decide (σ.2.1 c 4 = p)) (c + 1) = (bitsTo (fun c => decide (σ.2.1 c 4 = p)) c) by simp [bitsTo, *]] at ih
      exact ih
    · refine zV_iload_n dX1_coinsLying_25 rfl 2 rfl rfl ?_
      refine zV_iconst (v := (nI 1)) dX1_coinsLying_26 rfl rfl ?_
      refine zV_iload_n dX1_coinsLying_27 rfl 3 rfl rfl ?_
      refine zA_ishl (z := (nI (2 ^ c))) dX1_coinsLying_28 rfl  (z_shl1 (by omega)) ?_
      refine zA_ior (z := (nI ((bitsTo (fun c => decide (σ.2.1 c 4 = p)) c) + (2 ^ c)))) dX1_coinsLying_29 rfl  (z_or (bitsTo_lt _ _)) ?_
      refine zV_istore_n (lv' := [(0, .ref b), (1, .int (nI p)), (2, .int (nI ((bitsTo (fun c => decide (σ.2.1 c 4 = p)) c) + (2 ^ c)))), (3, .int (nI c))]) dX1_coinsLying_30 rfl rfl (by decide) rfl ?_
      refine zV_iinc (y := (nI (c + 1))) (lv' := [(0, .ref b), (1, .int (nI p)), (2, .int (nI ((bitsTo (fun c => decide (σ.2.1 c 4 = p)) c) + (2 ^ c)))), (3, .int (nI (c + 1)))]) dX1_coinsLying_31 rfl 3 rfl (nI_1 _) (by decide) rfl ?_
      refine zV_goto (tgt := 4) dX1_coinsLying_34 rfl ?_
      rw [show bitsTo (fun c => decide (σ.2.1 c 4 = p)) (c + 1) = ((bitsTo (fun c => decide (σ.2.1 c 4 = p)) c) + (2 ^ c)) by simp [bitsTo, *]] at ih
      exact ih

set_option maxRecDepth 100000 in
theorem c_worthOf {G : mG} {I : Nat → Nat → Int32} {J : Nat → Nat → Int64} {t : Nat} {b B : Nat} {σ : aL} (hb : isLand b) (hA : absL I b σ) (hW : wfL B σ) {s : Nat} (hs : s < 2 ^ 31) : zC G yX1_worthOf (eX1_worthOf (g_rmv 3)) [.ref b, .int (nI s)] (mm I J t) (fun r M => r = some (.int (nI (ld_sum σ s))) ∧ M = mm I J t) := by
  refine zC_of (by decide +kernel) rfl (by decide) (Nat.le_of_ble_eq_true rfl) ?_
  have n10 := hW.1
  show zV G (eX1_worthOf (g_rmv 3)) (0, 0) 0 [(0, .ref b), (1, .int (nI s))] [] (mm I J t) _
  refine zV_iconst (v := (nI 0)) dX1_worthOf_0 rfl rfl ?_
  refine zV_istore_n (lv' := [(0, .ref b), (1, .int (nI s)), (2, .int (nI 0))]) dX1_worthOf_1 rfl rfl (by decide) rfl ?_
  refine zV_iconst (v := (nI 0)) dX1_worthOf_2 rfl rfl ?_
  refine zV_istore_n (lv' := [(0, .ref b), (1, .int (nI s)), (2, .int (nI 0)), (3, .int (nI 0))]) dX1_worthOf_3 rfl rfl (by decide) rfl ?_
  refine z_for (fun c => zV G (eX1_worthOf (g_rmv 3)) (0, 0) 4 [(0, .ref b), (1, .int (nI s)), (2, .int (nI (fb_sm (fun c => if s.testBit c then k_now (σ.2.1 c) else 0) c))), (3, .int (nI c))] [] (mm I J t) _) σ.1 ?_ ?_ 0 (Nat.zero_le _)
  · skip
    refine zV_iload_n dX1_worthOf_4 rfl 3 rfl rfl ?_
    refine zV_aload_n dX1_worthOf_5 rfl 0 rfl rfl ?_
    refine zV_getI (x := (nI σ.1)) 2 dX1_worthOf_6 rfl fl_RX1_21 (sh_land hb) (by decide) rfl hA.1 ?_
    refine zN_icmp_ge (tgt := 38) dX1_worthOf_9 rfl rfl (by omega) (by omega) (fun _ => ?_) (fun z => absurd z (by omega))
    refine zV_iload_n dX1_worthOf_38 rfl 2 rfl rfl ?_
    exact zV_ireturn dX1_worthOf_39 rfl rfl (⟨rfl, rfl⟩)
  · intro c hc ih
    have w := hW.2.1 c hc
    obtain ⟨w0, w1, w2, w3, w4, w5, w6⟩ := w
    refine zV_iload_n dX1_worthOf_4 rfl 3 rfl rfl ?_
    refine zV_aload_n dX1_worthOf_5 rfl 0 rfl rfl ?_
    refine zV_getI (x := (nI σ.1)) 2 dX1_worthOf_6 rfl fl_RX1_21 (sh_land hb) (by decide) rfl hA.1 ?_
    refine zN_icmp_ge (tgt := 38) dX1_worthOf_9 rfl rfl (by omega) (by omega) (fun z => absurd z (by omega)) (fun _ => ?_)
    refine zV_iload_n dX1_worthOf_12 rfl 1 rfl rfl ?_
    refine zV_iload_n dX1_worthOf_13 rfl 3 rfl rfl ?_
    refine zV_callSN (E' := eX6_holds (g_rmv 0)) (av := [.int (nI s), .int (nI c)]) (st := []) dX1_worthOf_14 rfl (k_RX1_70 _) rfl ⟨by decide, by decide⟩ ⟨by decide, by decide⟩ (Or.inl rfl) rfl (Nat.le_of_ble_eq_true rfl) (c_holds (s := s) (c := c) (by omega) (by omega)) (fun r14 M14 z => ?_)
    obtain ⟨rfl, rfl⟩ := z
    show zV G (eX1_worthOf (g_rmv 3)) (0, 0) 17 [(0, .ref b), (1, .int (nI s)), (2, .int (nI (fb_sm (fun c => if s.testBit c then k_now (σ.2.1 c) else 0) c))), (3, .int (nI c))] [.int (b2 ((s).testBit c = true))] (mm I J t) _
    refine zB_if_eq (tgt := 32) dX1_worthOf_17 rfl rfl  (fun h17 => ?_) (fun h17 => ?_)
    · refine zV_iinc (y := (nI (c + 1))) (lv' := [(0, .ref b), (1, .int (nI s)), (2, .int (nI (fb_sm (fun c => if s.testBit c then k_now (σ.2.1 c) else 0) c))), (3, .int (nI (c + 1)))]) dX1_worthOf_32 rfl 3 rfl (nI_1 _) (by decide) rfl ?_
      refine zV_goto (tgt := 4) dX1_worthOf_35 rfl ?_
      rw [show fb_sm (fun c => if s.testBit c then k_now (σ.2.1 c) else 0) (c + 1) = (fb_sm (fun c => if s.testBit c then k_now (σ.2.1 c) else 0) c) by rw [fb_sm_succ]; simp [*]] at ih
      exact ih
    · refine zV_iload_n dX1_worthOf_20 rfl 2 rfl rfl ?_
      refine zV_aload_n dX1_worthOf_21 rfl 0 rfl rfl ?_
      refine zV_getr (q' := (b + 1)) 0 dX1_worthOf_22 rfl fl_RX1_11 (sh_land hb) (by decide) rfl (R_coins hb) ?_
      refine zV_iload_n dX1_worthOf_25 rfl 3 rfl rfl ?_
      refine zV_aaload (q' := (b + 3 + c)) c dX1_worthOf_26 rfl (sh_coins hb) rfl (by decide) rfl (by omega) (by decide) (R_coin hb (by omega)) ?_
      refine zV_callV (E' := eX0_worthNow (g_rmv 2)) (av := []) (st := [.int (nI (fb_sm (fun c => if s.testBit c then k_now (σ.2.1 c) else 0) c))]) (b := (b + 3 + c)) dX1_worthOf_27 rfl (k_RX1_74 _) rfl ⟨by decide, by decide⟩ ⟨by decide, by decide⟩ (Or.inl rfl) rfl (Nat.le_of_ble_eq_true rfl) (sh_coin hb (by omega)) rfl rfl (c_worthNow (sh_coin hb (by omega)) (hA.2.1 c hc) (hW.2.1 c hc)) (fun r27 M27 z => ?_)
      obtain ⟨rfl, rfl⟩ := z
      show zV G (eX1_worthOf (g_rmv 3)) (0, 0) 30 [(0, .ref b), (1, .int (nI s)), (2, .int (nI (fb_sm (fun c => if s.testBit c then k_now (σ.2.1 c) else 0) c))), (3, .int (nI c))] [.int (nI (k_now (σ.2.1 c))), .int (nI (fb_sm (fun c => if s.testBit c then k_now (σ.2.1 c) else 0) c))] (mm I J t) _
      refine zA_iadd (z := (nI ((fb_sm (fun c => if s.testBit c then k_now (σ.2.1 c) else 0) c) + (k_now (σ.2.1 c))))) dX1_worthOf_30 rfl  (nI_add _ _) ?_
      refine zV_istore_n (lv' := [(0, .ref b), (1, .int (nI s)), (2, .int (nI ((fb_sm (fun c => if s.testBit c then k_now (σ.2.1 c) else 0) c) + (k_now (σ.2.1 c))))), (3, .int (nI c))]) dX1_worthOf_31 rfl rfl (by decide) rfl ?_
      refine zV_iinc (y := (nI (c + 1))) (lv' := [(0, .ref b), (1, .int (nI s)), (2, .int (nI ((fb_sm (fun c => if s.testBit c then k_now (σ.2.1 c) else 0) c) + (k_now (σ.2.1 c))))), (3, .int (nI (c + 1)))]) dX1_worthOf_32 rfl 3 rfl (nI_1 _) (by decide) rfl ?_
      refine zV_goto (tgt := 4) dX1_worthOf_35 rfl ?_
      rw [show fb_sm (fun c => if s.testBit c then k_now (σ.2.1 c) else 0) (c + 1) = ((fb_sm (fun c => if s.testBit c then k_now (σ.2.1 c) else 0) c) + (k_now (σ.2.1 c))) by rw [fb_sm_succ]; simp [*]] at ih
      exact ih

set_option maxRecDepth 100000 in
theorem c_worthIfTurned {G : mG} {I : Nat → Nat → Int32} {J : Nat → Nat → Int64} {t : Nat} {b B : Nat} {σ : aL} (hb : isLand b) (hA : absL I b σ) (hW : wfL B σ) {s : Nat} (hs : s < 2 ^ 31) : zC G yX1_worthIfTurned (eX1_worthIfTurned (g_rmv 3)) [.ref b, .int (nI s)] (mm I J t) (fun r M => r = some (.int (nI (ld_sumT σ s))) ∧ M = mm I J t) := by
  refine zC_of (by decide +kernel) rfl (by decide) (Nat.le_of_ble_eq_true rfl) ?_
  have n10 := hW.1
  show zV G (eX1_worthIfTurned (g_rmv 3)) (0, 0) 0 [(0, .ref b), (1, .int (nI s))] [] (mm I J t) _
  refine zV_iconst (v := (nI 0)) dX1_worthIfTurned_0 rfl rfl ?_
  refine zV_istore_n (lv' := [(0, .ref b), (1, .int (nI s)), (2, .int (nI 0))]) dX1_worthIfTurned_1 rfl rfl (by decide) rfl ?_
  refine zV_iconst (v := (nI 0)) dX1_worthIfTurned_2 rfl rfl ?_
  refine zV_istore_n (lv' := [(0, .ref b), (1, .int (nI s)), (2, .int (nI 0)), (3, .int (nI 0))]) dX1_worthIfTurned_3 rfl rfl (by decide) rfl ?_
  refine z_for (fun c => zV G (eX1_worthIfTurned (g_rmv 3)) (0, 0) 4 [(0, .ref b), (1, .int (nI s)), (2, .int (nI (fb_sm (fun c => if s.testBit c then k_paid (σ.2.1 c) (σ.2.1 c 1) else 0) c))), (3, .int (nI c))] [] (mm I J t) _) σ.1 ?_ ?_ 0 (Nat.zero_le _)
  · skip
    refine zV_iload_n dX1_worthIfTurned_4 rfl 3 rfl rfl ?_
    refine zV_aload_n dX1_worthIfTurned_5 rfl 0 rfl rfl ?_
    refine zV_getI (x := (nI σ.1)) 2 dX1_worthIfTurned_6 rfl fl_RX1_21 (sh_land hb) (by decide) rfl hA.1 ?_
    refine zN_icmp_ge (tgt := 47) dX1_worthIfTurned_9 rfl rfl (by omega) (by omega) (fun _ => ?_) (fun z => absurd z (by omega))
    refine zV_iload_n dX1_worthIfTurned_47 rfl 2 rfl rfl ?_
    exact zV_ireturn dX1_worthIfTurned_48 rfl rfl (⟨rfl, rfl⟩)
  · intro c hc ih
    have w := hW.2.1 c hc
    obtain ⟨w0, w1, w2, w3, w4, w5, w6⟩ := w
    refine zV_iload_n dX1_worthIfTurned_4 rfl 3 rfl rfl ?_
    refine zV_aload_n dX1_worthIfTurned_5 rfl 0 rfl rfl ?_
    refine zV_getI (x := (nI σ.1)) 2 dX1_worthIfTurned_6 rfl fl_RX1_21 (sh_land hb) (by decide) rfl hA.1 ?_
    refine zN_icmp_ge (tgt := 47) dX1_worthIfTurned_9 rfl rfl (by omega) (by omega) (fun z => absurd z (by omega)) (fun _ => ?_)
    refine zV_iload_n dX1_worthIfTurned_12 rfl 1 rfl rfl ?_
    refine zV_iload_n dX1_worthIfTurned_13 rfl 3 rfl rfl ?_
    refine zV_callSN (E' := eX6_holds (g_rmv 0)) (av := [.int (nI s), .int (nI c)]) (st := []) dX1_worthIfTurned_14 rfl (k_RX1_70 _) rfl ⟨by decide, by decide⟩ ⟨by decide, by decide⟩ (Or.inl rfl) rfl (Nat.le_of_ble_eq_true rfl) (c_holds (s := s) (c := c) (by omega) (by omega)) (fun r14 M14 z => ?_)
    obtain ⟨rfl, rfl⟩ := z
    show zV G (eX1_worthIfTurned (g_rmv 3)) (0, 0) 17 [(0, .ref b), (1, .int (nI s)), (2, .int (nI (fb_sm (fun c => if s.testBit c then k_paid (σ.2.1 c) (σ.2.1 c 1) else 0) c))), (3, .int (nI c))] [.int (b2 ((s).testBit c = true))] (mm I J t) _
    refine zB_if_eq (tgt := 41) dX1_worthIfTurned_17 rfl rfl  (fun h17 => ?_) (fun h17 => ?_)
    · refine zV_iinc (y := (nI (c + 1))) (lv' := [(0, .ref b), (1, .int (nI s)), (2, .int (nI (fb_sm (fun c => if s.testBit c then k_paid (σ.2.1 c) (σ.2.1 c 1) else 0) c))), (3, .int (nI (c + 1)))]) dX1_worthIfTurned_41 rfl 3 rfl (nI_1 _) (by decide) rfl ?_
      refine zV_goto (tgt := 4) dX1_worthIfTurned_44 rfl ?_
      rw [show fb_sm (fun c => if s.testBit c then k_paid (σ.2.1 c) (σ.2.1 c 1) else 0) (c + 1) = (fb_sm (fun c => if s.testBit c then k_paid (σ.2.1 c) (σ.2.1 c 1) else 0) c) by rw [fb_sm_succ]; simp [*]] at ih
      exact ih
    · refine zV_iload_n dX1_worthIfTurned_20 rfl 2 rfl rfl ?_
      refine zV_aload_n dX1_worthIfTurned_21 rfl 0 rfl rfl ?_
      refine zV_getr (q' := (b + 1)) 0 dX1_worthIfTurned_22 rfl fl_RX1_11 (sh_land hb) (by decide) rfl (R_coins hb) ?_
      refine zV_iload_n dX1_worthIfTurned_25 rfl 3 rfl rfl ?_
      refine zV_aaload (q' := (b + 3 + c)) c dX1_worthIfTurned_26 rfl (sh_coins hb) rfl (by decide) rfl (by omega) (by decide) (R_coin hb (by omega)) ?_
      refine zV_aload_n dX1_worthIfTurned_27 rfl 0 rfl rfl ?_
      refine zV_getr (q' := (b + 1)) 0 dX1_worthIfTurned_28 rfl fl_RX1_11 (sh_land hb) (by decide) rfl (R_coins hb) ?_
      refine zV_iload_n dX1_worthIfTurned_31 rfl 3 rfl rfl ?_
      refine zV_aaload (q' := (b + 3 + c)) c dX1_worthIfTurned_32 rfl (sh_coins hb) rfl (by decide) rfl (by omega) (by decide) (R_coin hb (by omega)) ?_
      refine zV_getI (x := (nI (σ.2.1 c 1))) 1 dX1_worthIfTurned_33 rfl fl_RX1_55 (sh_coin hb (by omega)) (by decide) rfl (hA.2.1 c hc 1 (by decide)) ?_
      refine zV_callV (E' := eX0_worthPaidTo (g_rmv 2)) (av := [.int (nI (σ.2.1 c 1))]) (st := [.int (nI (fb_sm (fun c => if s.testBit c then k_paid (σ.2.1 c) (σ.2.1 c 1) else 0) c))]) (b := (b + 3 + c)) dX1_worthIfTurned_36 rfl (k_RX1_77 _) rfl ⟨by decide, by decide⟩ ⟨by decide, by decide⟩ (Or.inl rfl) rfl (Nat.le_of_ble_eq_true rfl) (sh_coin hb (by omega)) rfl rfl (c_worthPaid (wh := (σ.2.1 c 1)) (sh_coin hb (by omega)) (hA.2.1 c hc) (hW.2.1 c hc) (by omega)) (fun r36 M36 z => ?_)
      obtain ⟨rfl, rfl⟩ := z
      show zV G (eX1_worthIfTurned (g_rmv 3)) (0, 0) 39 [(0, .ref b), (1, .int (nI s)), (2, .int (nI (fb_sm (fun c => if s.testBit c then k_paid (σ.2.1 c) (σ.2.1 c 1) else 0) c))), (3, .int (nI c))] [.int (nI (k_paid (σ.2.1 c) (σ.2.1 c 1))), .int (nI (fb_sm (fun c => if s.testBit c then k_paid (σ.2.1 c) (σ.2.1 c 1) else 0) c))] (mm I J t) _
      refine zA_iadd (z := (nI ((fb_sm (fun c => if s.testBit c then k_paid (σ.2.1 c) (σ.2.1 c 1) else 0) c) + (k_paid (σ.2.1 c) (σ.2.1 c 1))))) dX1_worthIfTurned_39 rfl  (nI_add _ _) ?_
      refine zV_istore_n (lv' := [(0, .ref b), (1, .int (nI s)), (2, .int (nI ((fb_sm (fun c => if s.testBit c then k_paid (σ.2.1 c) (σ.2.1 c 1) else 0) c) + (k_paid (σ.2.1 c) (σ.2.1 c 1))))), (3, .int (nI c))]) dX1_worthIfTurned_40 rfl rfl (by decide) rfl ?_
      refine zV_iinc (y := (nI (c + 1))) (lv' := [(0, .ref b), (1, .int (nI s)), (2, .int (nI ((fb_sm (fun c => if s.testBit c then k_paid (σ.2.1 c) (σ.2.1 c 1) else 0) c) + (k_paid (σ.2.1 c) (σ.2.1 c 1))))), (3, .int (nI (c + 1)))]) dX1_worthIfTurned_41 rfl 3 rfl (nI_1 _) (by decide) rfl ?_
      refine zV_goto (tgt := 4) dX1_worthIfTurned_44 rfl ?_
      rw [show fb_sm (fun c => if s.testBit c then k_paid (σ.2.1 c) (σ.2.1 c 1) else 0) (c + 1) = ((fb_sm (fun c => if s.testBit c then k_paid (σ.2.1 c) (σ.2.1 c 1) else 0) c) + (k_paid (σ.2.1 c) (σ.2.1 c 1))) by rw [fb_sm_succ]; simp [*]] at ih
      exact ih

set_option maxRecDepth 100000 in
theorem c_turnsOfAll {G : mG} {I : Nat → Nat → Int32} {J : Nat → Nat → Int64} {t : Nat} {b B : Nat} {σ : aL} (hb : isLand b) (hA : absL I b σ) (hW : wfL B σ) : zC G yX1_turnsOfAll (eX1_turnsOfAll (g_rmv 0)) [.ref b] (mm I J t) (fun r M => r = some (.int (nI (ld_turns σ))) ∧ M = mm I J t) := by
  refine zC_of (by decide +kernel) rfl (by decide) (Nat.le_of_ble_eq_true rfl) ?_
  have n10 := hW.1
  show zV G (eX1_turnsOfAll (g_rmv 0)) (0, 0) 0 [(0, .ref b)] [] (mm I J t) _
  refine zV_iconst (v := (nI 0)) dX1_turnsOfAll_0 rfl rfl ?_
  refine zV_istore_n (lv' := [(0, .ref b), (1, .int (nI 0))]) dX1_turnsOfAll_1 rfl rfl (by decide) rfl ?_
  refine zV_iconst (v := (nI 0)) dX1_turnsOfAll_2 rfl rfl ?_
  refine zV_istore_n (lv' := [(0, .ref b), (1, .int (nI 0)), (2, .int (nI 0))]) dX1_turnsOfAll_3 rfl rfl (by decide) rfl ?_
  refine z_for (fun c => zV G (eX1_turnsOfAll (g_rmv 0)) (0, 0) 4 [(0, .ref b), (1, .int (nI (fb_sm (fun c => σ.2.1 c 5) c))), (2, .int (nI c))] [] (mm I J t) _) σ.1 ?_ ?_ 0 (Nat.zero_le _)
  · skip
    refine zV_iload_n dX1_turnsOfAll_4 rfl 2 rfl rfl ?_
    refine zV_aload_n dX1_turnsOfAll_5 rfl 0 rfl rfl ?_
    refine zV_getI (x := (nI σ.1)) 2 dX1_turnsOfAll_6 rfl fl_RX1_21 (sh_land hb) (by decide) rfl hA.1 ?_
    refine zN_icmp_ge (tgt := 30) dX1_turnsOfAll_9 rfl rfl (by omega) (by omega) (fun _ => ?_) (fun z => absurd z (by omega))
    refine zV_iload_n dX1_turnsOfAll_30 rfl 1 rfl rfl ?_
    exact zV_ireturn dX1_turnsOfAll_31 rfl rfl (⟨rfl, rfl⟩)
  · intro c hc ih
    have w := hW.2.1 c hc
    obtain ⟨w0, w1, w2, w3, w4, w5, w6⟩ := w
    refine zV_iload_n dX1_turnsOfAll_4 rfl 2 rfl rfl ?_
    refine zV_aload_n dX1_turnsOfAll_5 rfl 0 rfl rfl ?_
    refine zV_getI (x := (nI σ.1)) 2 dX1_turnsOfAll_6 rfl fl_RX1_21 (sh_land hb) (by decide) rfl hA.1 ?_
    refine zN_icmp_ge (tgt := 30) dX1_turnsOfAll_9 rfl rfl (by omega) (by omega) (fun z => absurd z (by omega)) (fun _ => ?_)
    refine zV_iload_n dX1_turnsOfAll_12 rfl 1 rfl rfl ?_
    refine zV_aload_n dX1_turnsOfAll_13 rfl 0 rfl rfl ?_
    refine zV_getr (q' := (b + 1)) 0 dX1_turnsOfAll_14 rfl fl_RX1_11 (sh_land hb) (by decide) rfl (R_coins hb) ?_
    refine zV_iload_n dX1_turnsOfAll_17 rfl 2 rfl rfl ?_
    refine zV_aaload (q' := (b + 3 + c)) c dX1_turnsOfAll_18 rfl (sh_coins hb) rfl (by decide) rfl (by omega) (by decide) (R_coin hb (by omega)) ?_
    refine zV_getI (x := (nI (σ.2.1 c 5))) 5 dX1_turnsOfAll_19 rfl fl_RX1_67 (sh_coin hb (by omega)) (by decide) rfl (hA.2.1 c hc 5 (by decide)) ?_
    refine zA_iadd (z := (nI ((fb_sm (fun c => σ.2.1 c 5) c) + (σ.2.1 c 5)))) dX1_turnsOfAll_22 rfl  (nI_add _ _) ?_
    refine zV_istore_n (lv' := [(0, .ref b), (1, .int (nI ((fb_sm (fun c => σ.2.1 c 5) c) + (σ.2.1 c 5)))), (2, .int (nI c))]) dX1_turnsOfAll_23 rfl rfl (by decide) rfl ?_
    refine zV_iinc (y := (nI (c + 1))) (lv' := [(0, .ref b), (1, .int (nI ((fb_sm (fun c => σ.2.1 c 5) c) + (σ.2.1 c 5)))), (2, .int (nI (c + 1)))]) dX1_turnsOfAll_24 rfl 2 rfl (nI_1 _) (by decide) rfl ?_
    refine zV_goto (tgt := 4) dX1_turnsOfAll_27 rfl ?_
    rw [show fb_sm (fun c => σ.2.1 c 5) (c + 1) = ((fb_sm (fun c => σ.2.1 c 5) c) + (σ.2.1 c 5)) by rw [fb_sm_succ]] at ih
    exact ih

set_option maxRecDepth 100000 in
theorem c_spotsHeld {G : mG} {I : Nat → Nat → Int32} {J : Nat → Nat → Int64} {t : Nat} {b B : Nat} {σ : aL} (hb : isLand b) (hA : absL I b σ) (hW : wfL B σ) : zC G yX1_spotsHeld (eX1_spotsHeld (g_rmv 0)) [.ref b] (mm I J t) (fun r M => r = some (.int (nI (ld_held σ))) ∧ M = mm I J t) := by
  refine zC_of (by decide +kernel) rfl (by decide) (Nat.le_of_ble_eq_true rfl) ?_
  have n10 := hW.1
  show zV G (eX1_spotsHeld (g_rmv 0)) (0, 0) 0 [(0, .ref b)] [] (mm I J t) _
  refine zV_iconst (v := (nI 0)) dX1_spotsHeld_0 rfl rfl ?_
  refine zV_istore_n (lv' := [(0, .ref b), (1, .int (nI 0))]) dX1_spotsHeld_1 rfl rfl (by decide) rfl ?_
  refine zV_iconst (v := (nI 0)) dX1_spotsHeld_2 rfl rfl ?_
  refine zV_istore_n (lv' := [(0, .ref b), (1, .int (nI 0)), (2, .int (nI 0))]) dX1_spotsHeld_3 rfl rfl (by decide) rfl ?_
  refine z_for (fun c => zV G (eX1_spotsHeld (g_rmv 0)) (0, 0) 4 [(0, .ref b), (1, .int (nI (fb_ct (fun s => decide (σ.2.2.1 s ≠ -1)) c))), (2, .int (nI c))] [] (mm I J t) _) 10 ?_ ?_ 0 (Nat.zero_le _)
  · skip
    refine zV_iload_n dX1_spotsHeld_4 rfl 2 rfl rfl ?_
    refine zV_bipush (v := (nI 10)) dX1_spotsHeld_5 rfl rfl ?_
    refine zN_icmp_ge (tgt := 29) dX1_spotsHeld_7 rfl rfl (by omega) (by omega) (fun _ => ?_) (fun z => absurd z (by omega))
    refine zV_iload_n dX1_spotsHeld_29 rfl 1 rfl rfl ?_
    exact zV_ireturn dX1_spotsHeld_30 rfl rfl (⟨rfl, rfl⟩)
  · intro c hc ih
    refine zV_iload_n dX1_spotsHeld_4 rfl 2 rfl rfl ?_
    refine zV_bipush (v := (nI 10)) dX1_spotsHeld_5 rfl rfl ?_
    refine zN_icmp_ge (tgt := 29) dX1_spotsHeld_7 rfl rfl (by omega) (by omega) (fun z => absurd z (by omega)) (fun _ => ?_)
    refine zV_aload_n dX1_spotsHeld_10 rfl 0 rfl rfl ?_
    refine zV_getr (q' := (b + 2)) 1 dX1_spotsHeld_11 rfl fl_RX1_17 (sh_land hb) (by decide) rfl (R_spots hb) ?_
    refine zV_iload_n dX1_spotsHeld_14 rfl 2 rfl rfl ?_
    refine zV_iald (x := (σ.2.2.1 c)) c dX1_spotsHeld_15 rfl (sh_spots hb) rfl (by omega) (by decide) (hA.2.2.1 c hc) ?_
    refine zV_iconst (v := (-1)) dX1_spotsHeld_16 rfl rfl ?_
    refine zV_icmp_eq (tgt := 23) dX1_spotsHeld_17 rfl rfl  (fun h17 => ?_) (fun h17 => ?_)
    · refine zV_iinc (y := (nI (c + 1))) (lv' := [(0, .ref b), (1, .int (nI (fb_ct (fun s => decide (σ.2.2.1 s ≠ -1)) c))), (2, .int (nI (c + 1)))]) dX1_spotsHeld_23 rfl 2 rfl (nI_1 _) (by decide) rfl ?_
      refine zV_goto (tgt := 4) dX1_spotsHeld_26 rfl ?_
      rw [show fb_ct (fun s => decide (σ.2.2.1 s ≠ -1)) (c + 1) = (fb_ct (fun s => decide (σ.2.2.1 s ≠ -1)) c) by rw [fb_ct_succ]; simp [*]] at ih
      exact ih
    · refine zV_iinc (y := (nI ((fb_ct (fun s => decide (σ.2.2.1 s ≠ -1)) c) + 1))) (lv' := [(0, .ref b), (1, .int (nI ((fb_ct (fun s => decide (σ.2.2.1 s ≠ -1)) c) + 1))), (2, .int (nI c))]) dX1_spotsHeld_20 rfl 1 rfl (nI_1 _) (by decide) rfl ?_
      refine zV_iinc (y := (nI (c + 1))) (lv' := [(0, .ref b), (1, .int (nI ((fb_ct (fun s => decide (σ.2.2.1 s ≠ -1)) c) + 1))), (2, .int (nI (c + 1)))]) dX1_spotsHeld_23 rfl 2 rfl (nI_1 _) (by decide) rfl ?_
      refine zV_goto (tgt := 4) dX1_spotsHeld_26 rfl ?_
      rw [show fb_ct (fun s => decide (σ.2.2.1 s ≠ -1)) (c + 1) = ((fb_ct (fun s => decide (σ.2.2.1 s ≠ -1)) c) + 1) by rw [fb_ct_succ]; simp [*]] at ih
      exact ih

set_option maxRecDepth 100000 in
theorem c_paySet {G : mG} {I : Nat → Nat → Int32} {J : Nat → Nat → Int64} {t : Nat} {b B : Nat} {σ : aL} (hb : isLand b) (hA : absL I b σ) (hW : wfL B σ) {s to : Nat} (hs : s < 2 ^ 31) (ht : to < 4) : zC G yX1_paySet (eX1_paySet (g_rmv 3)) [.ref b, .int (nI s), .int (nI to)] (mm I J t) (fun r M => ∃ I', r = none ∧ M = mm I' J t ∧ absL I' b (ld_payA σ s to) ∧ frL b I I') := by
  refine zC_of (by decide +kernel) rfl (by decide) (Nat.le_of_ble_eq_true rfl) ?_
  have n10 := hW.1
  show zV G (eX1_paySet (g_rmv 3)) (0, 0) 0 [(0, .ref b), (1, .int (nI s)), (2, .int (nI to))] [] (mm I J t) _
  refine zV_iconst (v := (nI 0)) dX1_paySet_0 rfl rfl ?_
  refine zV_istore_n (lv' := [(0, .ref b), (1, .int (nI s)), (2, .int (nI to)), (3, .int (nI 0))]) dX1_paySet_1 rfl rfl (by decide) rfl ?_
  refine z_for (fun c => ∀ (I1 : Nat → Nat → Int32), (absL I1 b (ld_pay σ s to c) ∧ frL b I I1) → zV G (eX1_paySet (g_rmv 3)) (0, 0) 2 [(0, .ref b), (1, .int (nI s)), (2, .int (nI to)), (3, .int (nI c))] [] (mm I1 J t) _) σ.1 ?_ ?_ 0 (Nat.zero_le _) I ⟨by rw [ld_pay_0]; exact hA, frL.rf⟩
  · intro I1 h1
    refine zV_iload_n dX1_paySet_2 rfl 3 rfl rfl ?_
    refine zV_aload_n dX1_paySet_3 rfl 0 rfl rfl ?_
    refine zV_getI (x := (nI σ.1)) 2 dX1_paySet_4 rfl fl_RX1_21 (sh_land hb) (by decide) rfl h1.1.1 ?_
    refine zN_icmp_ge (tgt := 34) dX1_paySet_7 rfl rfl (by omega) (by omega) (fun _ => ?_) (fun z => absurd z (by omega))
    exact zV_return dX1_paySet_34 rfl (⟨I1, rfl, rfl, h1.1, h1.2⟩)
  · intro c hc ih
    intro I1 h1
    have w := hW.2.1 c hc
    obtain ⟨w0, w1, w2, w3, w4, w5, w6⟩ := w
    have hk : absK I1 (b + 3 + c) (σ.2.1 c) := by have h9 := h1.1.2.1 c hc; rwa [ld_pay_at] at h9
    refine zV_iload_n dX1_paySet_2 rfl 3 rfl rfl ?_
    refine zV_aload_n dX1_paySet_3 rfl 0 rfl rfl ?_
    refine zV_getI (x := (nI σ.1)) 2 dX1_paySet_4 rfl fl_RX1_21 (sh_land hb) (by decide) rfl h1.1.1 ?_
    refine zN_icmp_ge (tgt := 34) dX1_paySet_7 rfl rfl (by omega) (by omega) (fun z => absurd z (by omega)) (fun _ => ?_)
    refine zV_iload_n dX1_paySet_10 rfl 1 rfl rfl ?_
    refine zV_iload_n dX1_paySet_11 rfl 3 rfl rfl ?_
    refine zV_callSN (E' := eX6_holds (g_rmv 0)) (av := [.int (nI s), .int (nI c)]) (st := []) dX1_paySet_12 rfl (k_RX1_70 _) rfl ⟨by decide, by decide⟩ ⟨by decide, by decide⟩ (Or.inl rfl) rfl (Nat.le_of_ble_eq_true rfl) (c_holds (s := s) (c := c) (by omega) (by omega)) (fun r12 M12 z => ?_)
    obtain ⟨rfl, rfl⟩ := z
    show zV G (eX1_paySet (g_rmv 3)) (0, 0) 15 [(0, .ref b), (1, .int (nI s)), (2, .int (nI to)), (3, .int (nI c))] [.int (b2 ((s).testBit c = true))] (mm I1 J t) _
    refine zB_if_eq (tgt := 28) dX1_paySet_15 rfl rfl  (fun h15 => ?_) (fun h15 => ?_)
    · refine zV_iinc (y := (nI (c + 1))) (lv' := [(0, .ref b), (1, .int (nI s)), (2, .int (nI to)), (3, .int (nI (c + 1)))]) dX1_paySet_28 rfl 3 rfl (nI_1 _) (by decide) rfl ?_
      refine zV_goto (tgt := 2) dX1_paySet_31 rfl ?_
      exact ih I1 ⟨by rw [ld_pay_f (by simpa using h15)]; exact h1.1, h1.2⟩
    · refine zV_aload_n dX1_paySet_18 rfl 0 rfl rfl ?_
      refine zV_getr (q' := (b + 1)) 0 dX1_paySet_19 rfl fl_RX1_11 (sh_land hb) (by decide) rfl (R_coins hb) ?_
      refine zV_iload_n dX1_paySet_22 rfl 3 rfl rfl ?_
      refine zV_aaload (q' := (b + 3 + c)) c dX1_paySet_23 rfl (sh_coins hb) rfl (by decide) rfl (by omega) (by decide) (R_coin hb (by omega)) ?_
      refine zV_iload_n dX1_paySet_24 rfl 2 rfl rfl ?_
      refine zV_callV (E' := eX0_payTo (g_rmv 2)) (av := [.int (nI to)]) (st := []) (b := (b + 3 + c)) dX1_paySet_25 rfl (k_RX1_81 _) rfl ⟨by decide, by decide⟩ ⟨by decide, by decide⟩ (Or.inl rfl) rfl (Nat.le_of_ble_eq_true rfl) (sh_coin hb (by omega)) rfl rfl (c_payTo (w := to) (sh_coin hb (by omega)) hk (hW.2.1 c hc) (by omega)) (fun r25 M25 z => ?_)
      obtain ⟨I25, rfl, rfl, hK25, hF25⟩ := z
      show zV G (eX1_paySet (g_rmv 3)) (0, 0) 28 [(0, .ref b), (1, .int (nI s)), (2, .int (nI to)), (3, .int (nI c))] [] (mm I25 J t) _
      refine zV_iinc (y := (nI (c + 1))) (lv' := [(0, .ref b), (1, .int (nI s)), (2, .int (nI to)), (3, .int (nI (c + 1)))]) dX1_paySet_28 rfl 3 rfl (nI_1 _) (by decide) rfl ?_
      refine zV_goto (tgt := 2) dX1_paySet_31 rfl ?_
      exact ih I25 ⟨by rw [ld_pay_t (by simpa using h15)]; exact h1.1.cset hK25 hF25, h1.2.tr (frL.coin (by omega) hF25)⟩

set_option maxRecDepth 100000 in
theorem c_exchange {G : mG} {I : Nat → Nat → Int32} {J : Nat → Nat → Int64} {t : Nat} {b B : Nat} {σ : aL} (hb : isLand b) (hA : absL I b σ) (hW : wfL B σ) {g to k fr : Nat} (hg : g < 2 ^ 31) (ht : to < 4) (hk : k < 2 ^ 31) (hf : fr < 4) (hB : B + 4 < 1000000) : zC G yX1_exchange (eX1_exchange (g_rmv 4)) [.ref b, .int (nI g), .int (nI to), .int (nI k), .int (nI fr)] (mm I J t) (fun r M => ∃ I', r = none ∧ M = mm I' J t ∧ absL I' b (ld_payA (ld_payA σ g to) k fr) ∧ frL b I I') := by
  refine zC_of (by decide +kernel) rfl (by decide) (Nat.le_of_ble_eq_true rfl) ?_
  have n10 := hW.1
  show zV G (eX1_exchange (g_rmv 4)) (0, 0) 0 [(0, .ref b), (1, .int (nI g)), (2, .int (nI to)), (3, .int (nI k)), (4, .int (nI fr))] [] (mm I J t) _
  refine zV_aload_n dX1_exchange_0 rfl 0 rfl rfl ?_
  refine zV_iload_n dX1_exchange_1 rfl 1 rfl rfl ?_
  refine zV_iload_n dX1_exchange_2 rfl 2 rfl rfl ?_
  refine zV_callV (E' := eX1_paySet (g_rmv 3)) (av := [.int (nI g), .int (nI to)]) (st := []) (b := b) dX1_exchange_3 rfl (k_RX1_85 _) rfl ⟨by decide, by decide⟩ ⟨by decide, by decide⟩ (Or.inl rfl) rfl (Nat.le_of_ble_eq_true rfl) (sh_land hb) rfl rfl (c_paySet (s := g) (to := to) hb hA hW (by omega) (by omega)) (fun r3 M3 z => ?_)
  obtain ⟨I3, rfl, rfl, hA3, hF3⟩ := z
  have hW3 := wf_payA (s := g) (to := to) hW (by omega) (by omega)
  show zV G (eX1_exchange (g_rmv 4)) (0, 0) 6 [(0, .ref b), (1, .int (nI g)), (2, .int (nI to)), (3, .int (nI k)), (4, .int (nI fr))] [] (mm I3 J t) _
  refine zV_aload_n dX1_exchange_6 rfl 0 rfl rfl ?_
  refine zV_iload_n dX1_exchange_7 rfl 3 rfl rfl ?_
  refine zV_iload dX1_exchange_8 rfl 4 rfl ?_
  refine zV_callV (E' := eX1_paySet (g_rmv 3)) (av := [.int (nI k), .int (nI fr)]) (st := []) (b := b) dX1_exchange_10 rfl (k_RX1_85 _) rfl ⟨by decide, by decide⟩ ⟨by decide, by decide⟩ (Or.inl rfl) rfl (Nat.le_of_ble_eq_true rfl) (sh_land hb) rfl rfl (c_paySet (s := k) (to := fr) hb hA3 hW3 (by omega) (by omega)) (fun r10 M10 z => ?_)
  obtain ⟨I10, rfl, rfl, hA10, hF10⟩ := z
  have hW10 := wf_payA (s := k) (to := fr) hW3 (by omega) (by omega)
  show zV G (eX1_exchange (g_rmv 4)) (0, 0) 13 [(0, .ref b), (1, .int (nI g)), (2, .int (nI to)), (3, .int (nI k)), (4, .int (nI fr))] [] (mm I10 J t) _
  exact zV_return dX1_exchange_13 rfl (⟨_, rfl, rfl, hA10, hF3.tr hF10⟩)

set_option maxRecDepth 100000 in
theorem c_turnShips {G : mG} {I : Nat → Nat → Int32} {J : Nat → Nat → Int64} {t : Nat} {b B : Nat} {σ : aL} (hb : isLand b) (hA : absL I b σ) (hW : wfL B σ) : zC G yX1_turnShips (eX1_turnShips (g_rmv 2)) [.ref b] (mm I J t) (fun r M => ∃ I', r = some (.int (nI (ld_shipN σ))) ∧ M = mm I' J t ∧ absL I' b (ld_ship σ σ.1) ∧ frL b I I') := by
  refine zC_of (by decide +kernel) rfl (by decide) (Nat.le_of_ble_eq_true rfl) ?_
  have n10 := hW.1
  show zV G (eX1_turnShips (g_rmv 2)) (0, 0) 0 [(0, .ref b)] [] (mm I J t) _
  refine zV_iconst (v := (nI 0)) dX1_turnShips_0 rfl rfl ?_
  refine zV_istore_n (lv' := [(0, .ref b), (1, .int (nI 0))]) dX1_turnShips_1 rfl rfl (by decide) rfl ?_
  refine zV_iconst (v := (nI 0)) dX1_turnShips_2 rfl rfl ?_
  refine zV_istore_n (lv' := [(0, .ref b), (1, .int (nI 0)), (2, .int (nI 0))]) dX1_turnShips_3 rfl rfl (by decide) rfl ?_
  refine z_for (fun c => ∀ (I1 : Nat → Nat → Int32), (absL I1 b (ld_ship σ c) ∧ frL b I I1) → zV G (eX1_turnShips (g_rmv 2)) (0, 0) 4 [(0, .ref b), (1, .int (nI (fb_ct (fun c => decide (σ.2.1 c 4 = 1)) c))), (2, .int (nI c))] [] (mm I1 J t) _) σ.1 ?_ ?_ 0 (Nat.zero_le _) I ⟨by rw [ld_ship_0]; exact hA, frL.rf⟩
  · intro I1 h1
    refine zV_iload_n dX1_turnShips_4 rfl 2 rfl rfl ?_
    refine zV_aload_n dX1_turnShips_5 rfl 0 rfl rfl ?_
    refine zV_getI (x := (nI σ.1)) 2 dX1_turnShips_6 rfl fl_RX1_21 (sh_land hb) (by decide) rfl h1.1.1 ?_
    refine zN_icmp_ge (tgt := 43) dX1_turnShips_9 rfl rfl (by omega) (by omega) (fun _ => ?_) (fun z => absurd z (by omega))
    refine zV_iload_n dX1_turnShips_43 rfl 1 rfl rfl ?_
    exact zV_ireturn dX1_turnShips_44 rfl rfl (⟨I1, rfl, rfl, h1.1, h1.2⟩)
  · intro c hc ih
    intro I1 h1
    have w := hW.2.1 c hc
    obtain ⟨w0, w1, w2, w3, w4, w5, w6⟩ := w
    have hk : absK I1 (b + 3 + c) (σ.2.1 c) := by have h9 := h1.1.2.1 c hc; rwa [ld_ship_at] at h9
    refine zV_iload_n dX1_turnShips_4 rfl 2 rfl rfl ?_
    refine zV_aload_n dX1_turnShips_5 rfl 0 rfl rfl ?_
    refine zV_getI (x := (nI σ.1)) 2 dX1_turnShips_6 rfl fl_RX1_21 (sh_land hb) (by decide) rfl h1.1.1 ?_
    refine zN_icmp_ge (tgt := 43) dX1_turnShips_9 rfl rfl (by omega) (by omega) (fun z => absurd z (by omega)) (fun _ => ?_)
    refine zV_aload_n dX1_turnShips_12 rfl 0 rfl rfl ?_
    refine zV_getr (q' := (b + 1)) 0 dX1_turnShips_13 rfl fl_RX1_11 (sh_land hb) (by decide) rfl (R_coins hb) ?_
    refine zV_iload_n dX1_turnShips_16 rfl 2 rfl rfl ?_
    refine zV_aaload (q' := (b + 3 + c)) c dX1_turnShips_17 rfl (sh_coins hb) rfl (by decide) rfl (by omega) (by decide) (R_coin hb (by omega)) ?_
    refine zV_getI (x := (nI (σ.2.1 c 4))) 4 dX1_turnShips_18 rfl fl_RX1_64 (sh_coin hb (by omega)) (by decide) rfl (hk 4 (by decide)) ?_
    refine zV_iconst (v := (nI 1)) dX1_turnShips_21 rfl rfl ?_
    refine zN_icmp_ne (tgt := 37) dX1_turnShips_22 rfl rfl (by omega) (by omega) (fun h22 => ?_) (fun h22 => ?_)
    · refine zV_iinc (y := (nI (c + 1))) (lv' := [(0, .ref b), (1, .int (nI (fb_ct (fun c => decide (σ.2.1 c 4 = 1)) c))), (2, .int (nI (c + 1)))]) dX1_turnShips_37 rfl 2 rfl (nI_1 _) (by decide) rfl ?_
      refine zV_goto (tgt := 4) dX1_turnShips_40 rfl ?_
      rw [show fb_ct (fun c => decide (σ.2.1 c 4 = 1)) (c + 1) = (fb_ct (fun c => decide (σ.2.1 c 4 = 1)) c) by rw [fb_ct_succ]; simp [*]] at ih
      exact ih I1 ⟨by rw [ld_ship_f (by simpa using h22)]; exact h1.1, h1.2⟩
    · refine zV_aload_n dX1_turnShips_25 rfl 0 rfl rfl ?_
      refine zV_getr (q' := (b + 1)) 0 dX1_turnShips_26 rfl fl_RX1_11 (sh_land hb) (by decide) rfl (R_coins hb) ?_
      refine zV_iload_n dX1_turnShips_29 rfl 2 rfl rfl ?_
      refine zV_aaload (q' := (b + 3 + c)) c dX1_turnShips_30 rfl (sh_coins hb) rfl (by decide) rfl (by omega) (by decide) (R_coin hb (by omega)) ?_
      refine zV_callV (E' := eX0_turnOver (g_rmv 1)) (av := []) (st := []) (b := (b + 3 + c)) dX1_turnShips_31 rfl (k_RX1_93 _) rfl ⟨by decide, by decide⟩ ⟨by decide, by decide⟩ (Or.inl rfl) rfl (Nat.le_of_ble_eq_true rfl) (sh_coin hb (by omega)) rfl rfl (c_turnOver (sh_coin hb (by omega)) hk (hW.2.1 c hc)) (fun r31 M31 z => ?_)
      obtain ⟨I31, rfl, rfl, hK31, hF31⟩ := z
      show zV G (eX1_turnShips (g_rmv 2)) (0, 0) 34 [(0, .ref b), (1, .int (nI (fb_ct (fun c => decide (σ.2.1 c 4 = 1)) c))), (2, .int (nI c))] [] (mm I31 J t) _
      refine zV_iinc (y := (nI ((fb_ct (fun c => decide (σ.2.1 c 4 = 1)) c) + 1))) (lv' := [(0, .ref b), (1, .int (nI ((fb_ct (fun c => decide (σ.2.1 c 4 = 1)) c) + 1))), (2, .int (nI c))]) dX1_turnShips_34 rfl 1 rfl (nI_1 _) (by decide) rfl ?_
      refine zV_iinc (y := (nI (c + 1))) (lv' := [(0, .ref b), (1, .int (nI ((fb_ct (fun c => decide (σ.2.1 c 4 = 1)) c) + 1))), (2, .int (nI (c + 1)))]) dX1_turnShips_37 rfl 2 rfl (nI_1 _) (by decide) rfl ?_
      refine zV_goto (tgt := 4) dX1_turnShips_40 rfl ?_
      rw [show fb_ct (fun c => decide (σ.2.1 c 4 = 1)) (c + 1) = ((fb_ct (fun c => decide (σ.2.1 c 4 = 1)) c) + 1) by rw [fb_ct_succ]; simp [*]] at ih
      exact ih I31 ⟨by rw [ld_ship_t (by simpa using h22)]; exact h1.1.cset hK31 hF31, h1.2.tr (frL.coin (by omega) hF31)⟩
