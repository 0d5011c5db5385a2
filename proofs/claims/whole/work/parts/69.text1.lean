/-! TEXTS: Strings; tokens of the class -/
theorem g_len_le : ∀ t, t < 11 → g_len.getD t 0 ≤ 100000 := by decide +kernel
theorem g_len_7 : ∀ t, t < 11 → g_len.getD t 0 ≤ 7 := by decide +kernel
theorem g_len_shr : ∀ t, t < 11 → nI (g_len.getD t 0) >>> (nI 0 &&& 31) = nI (g_len.getD t 0) := by decide +kernel
theorem g_byt_c : ∀ t, t < 11 → ∀ j, j < g_len.getD t 0 → ((((g_byt.getD t []).getD j 0) &&& nI 255).toUInt32 % 65536).toInt32 = (g_byt.getD t []).getD j 0 := by decide +kernel
theorem g_byt_n : ∀ t, t < 11 → ∀ j, j < g_len.getD t 0 → narrow .char (.int ((g_byt.getD t []).getD j 0)) = .int ((g_byt.getD t []).getD j 0) := by decide +kernel
set_option maxRecDepth 100000 in
theorem c_coder {G : mG} {I : Nat → Nat → Int32} {J : Nat → Nat → Int64} {tm : Nat} {t : Nat} (ht : t < 11) : zC G yJ0_coder_7d493 (eJ0_coder_7d493 (g_rmv 0)) [.ref (1000 + t)] (mm I J tm) (fun r M => r = some (.int (nI 0)) ∧ M = mm I J tm) := by
  refine zC_of (by decide +kernel) rfl (by decide) (Nat.le_of_ble_eq_true rfl) ?_
  show zV G (eJ0_coder_7d493 (g_rmv 0)) (0, 0) 0 [(0, .ref (1000 + t))] [] (mm I J tm) _
  refine zV_gsCompact dJ0_coder_7d493_0 rfl tw713 ?_
  refine zN_if_eq (tgt := 13) dJ0_coder_7d493_3 rfl rfl (by decide) (fun z => absurd z (by decide)) (fun _ => ?_)
  refine zV_aload_n dJ0_coder_7d493_6 rfl 0 rfl rfl ?_
  refine zV_strCoder t ht dJ0_coder_7d493_7 rfl tw1387 ?_
  refine zV_goto (tgt := 14) dJ0_coder_7d493_10 rfl ?_
  exact zV_ireturn dJ0_coder_7d493_14 rfl rfl (⟨rfl, rfl⟩)

set_option maxRecDepth 100000 in
theorem c_isLatin1 {G : mG} {I : Nat → Nat → Int32} {J : Nat → Nat → Int64} {tm : Nat} {t : Nat} (ht : t < 11) : zC G yJ0_isLatin1_aae02 (eJ0_isLatin1_aae02 (g_rmv 0)) [.ref (1000 + t)] (mm I J tm) (fun r M => r = some (.int (nI 1)) ∧ M = mm I J tm) := by
  refine zC_of (by decide +kernel) rfl (by decide) (Nat.le_of_ble_eq_true rfl) ?_
  show zV G (eJ0_isLatin1_aae02 (g_rmv 0)) (0, 0) 0 [(0, .ref (1000 + t))] [] (mm I J tm) _
  refine zV_gsCompact dJ0_isLatin1_aae02_0 rfl tw713 ?_
  refine zN_if_eq (tgt := 17) dJ0_isLatin1_aae02_3 rfl rfl (by decide) (fun z => absurd z (by decide)) (fun _ => ?_)
  refine zV_aload_n dJ0_isLatin1_aae02_6 rfl 0 rfl rfl ?_
  refine zV_strCoder t ht dJ0_isLatin1_aae02_7 rfl tw1387 ?_
  refine zN_if_ne (tgt := 17) dJ0_isLatin1_aae02_10 rfl rfl (by decide) (fun z => absurd z (by decide)) (fun _ => ?_)
  refine zV_iconst (v := (nI 1)) dJ0_isLatin1_aae02_13 rfl rfl ?_
  refine zV_goto (tgt := 18) dJ0_isLatin1_aae02_14 rfl ?_
  exact zV_ireturn dJ0_isLatin1_aae02_18 rfl rfl (⟨rfl, rfl⟩)

set_option maxRecDepth 100000 in
theorem c_strlen {G : mG} {I : Nat → Nat → Int32} {J : Nat → Nat → Int64} {tm : Nat} {t : Nat} (ht : t < 11) : zC G yJ0_length_8abf5 (eJ0_length_8abf5 (g_rmv 1)) [.ref (1000 + t)] (mm I J tm) (fun r M => r = some (.int (nI (g_len.getD t 0))) ∧ M = mm I J tm) := by
  refine zC_of (by decide +kernel) rfl (by decide) (Nat.le_of_ble_eq_true rfl) ?_
  show zV G (eJ0_length_8abf5 (g_rmv 1)) (0, 0) 0 [(0, .ref (1000 + t))] [] (mm I J tm) _
  refine zV_aload_n dJ0_length_8abf5_0 rfl 0 rfl rfl ?_
  refine zV_strVal t ht dJ0_length_8abf5_1 rfl tw1386 ?_
  refine zV_strLen t ht dJ0_length_8abf5_4 rfl ?_
  refine zV_aload_n dJ0_length_8abf5_5 rfl 0 rfl rfl ?_
  refine zV_callVs (E' := eJ0_coder_7d493 (g_rmv 0)) (av := []) (st := [.int (nI (g_len.getD t 0))]) (t := t) ht dJ0_length_8abf5_6 rfl (k_RJ0_335 _) rfl ⟨by decide, by decide⟩ ⟨by decide, by decide⟩ (Or.inl rfl) rfl (Nat.le_of_ble_eq_true rfl) rfl (c_coder ht) (fun r6 M6 z => ?_)
  obtain ⟨rfl, rfl⟩ := z
  show zV G (eJ0_length_8abf5 (g_rmv 1)) (0, 0) 9 [(0, .ref (1000 + t))] [.int (nI 0), .int (nI (g_len.getD t 0))] (mm I J tm) _
  refine zA_ishr (z := (nI (g_len.getD t 0))) dJ0_length_8abf5_9 rfl  (g_len_shr t ht) ?_
  exact zV_ireturn dJ0_length_8abf5_10 rfl rfl (⟨rfl, rfl⟩)

set_option maxRecDepth 100000 in
theorem c_ckI0 {G : mG} {I : Nat → Nat → Int32} {J : Nat → Nat → Int64} {t : Nat} {i m : Nat} (hi : i < m) (hm : m < 2 ^ 31) : zC G yJ3_checkIndex_8e157 (eJ3_checkIndex_8e157 (g_rmv 0)) [.int (nI i), .int (nI m), .null] (mm I J t) (fun r M => r = some (.int (nI i)) ∧ M = mm I J t) := by
  refine zC_of (by decide +kernel) rfl (by decide) (Nat.le_of_ble_eq_true rfl) ?_
  show zV G (eJ3_checkIndex_8e157 (g_rmv 0)) (0, 0) 0 [(0, .int (nI i)), (1, .int (nI m)), (2, .null)] [] (mm I J t) _
  refine zV_iload_n dJ3_checkIndex_8e157_0 rfl 0 rfl rfl ?_
  refine zN_if_lt (tgt := 9) dJ3_checkIndex_8e157_1 rfl (by omega) rfl ?_
  refine zV_iload_n dJ3_checkIndex_8e157_4 rfl 0 rfl rfl ?_
  refine zV_iload_n dJ3_checkIndex_8e157_5 rfl 1 rfl rfl ?_
  refine zN_icmp_lt (tgt := 16) dJ3_checkIndex_8e157_6 rfl rfl (by omega) (by omega) (fun _ => ?_) (fun z => absurd z (by omega))
  refine zV_iload_n dJ3_checkIndex_8e157_16 rfl 0 rfl rfl ?_
  exact zV_ireturn dJ3_checkIndex_8e157_17 rfl rfl (⟨rfl, rfl⟩)

set_option maxRecDepth 100000 in
theorem c_ckI1 {G : mG} {I : Nat → Nat → Int32} {J : Nat → Nat → Int64} {t : Nat} {i m : Nat} (hi : i < m) (hm : m < 2 ^ 31) : zC G yJ3_checkIndex_8e157 (eJ3_checkIndex_8e157 (g_rmv 0)) [.int (nI i), .int (nI m), .ref 1302] (mm I J t) (fun r M => r = some (.int (nI i)) ∧ M = mm I J t) := by
  refine zC_of (by decide +kernel) rfl (by decide) (Nat.le_of_ble_eq_true rfl) ?_
  show zV G (eJ3_checkIndex_8e157 (g_rmv 0)) (0, 0) 0 [(0, .int (nI i)), (1, .int (nI m)), (2, .ref 1302)] [] (mm I J t) _
  refine zV_iload_n dJ3_checkIndex_8e157_0 rfl 0 rfl rfl ?_
  refine zN_if_lt (tgt := 9) dJ3_checkIndex_8e157_1 rfl (by omega) rfl ?_
  refine zV_iload_n dJ3_checkIndex_8e157_4 rfl 0 rfl rfl ?_
  refine zV_iload_n dJ3_checkIndex_8e157_5 rfl 1 rfl rfl ?_
  refine zN_icmp_lt (tgt := 16) dJ3_checkIndex_8e157_6 rfl rfl (by omega) (by omega) (fun _ => ?_) (fun z => absurd z (by omega))
  refine zV_iload_n dJ3_checkIndex_8e157_16 rfl 0 rfl rfl ?_
  exact zV_ireturn dJ3_checkIndex_8e157_17 rfl rfl (⟨rfl, rfl⟩)

set_option maxRecDepth 100000 in
theorem c_ckI {G : mG} {I : Nat → Nat → Int32} {J : Nat → Nat → Int64} {t : Nat} {i m : Nat} (hi : i < m) (hm : m < 2 ^ 31) : zC G yJ0_checkIndex_df160 (eJ0_checkIndex_df160 (g_rmv 1)) [.int (nI i), .int (nI m)] (mm I J t) (fun r M => r = none ∧ M = mm I J t) := by
  refine zC_of (by decide +kernel) rfl (by decide) (Nat.le_of_ble_eq_true rfl) ?_
  show zV G (eJ0_checkIndex_df160 (g_rmv 1)) (0, 0) 0 [(0, .int (nI i)), (1, .int (nI m))] [] (mm I J t) _
  refine zV_iload_n dJ0_checkIndex_df160_0 rfl 0 rfl rfl ?_
  refine zV_iload_n dJ0_checkIndex_df160_1 rfl 1 rfl rfl ?_
  refine zV_gsFmt dJ0_checkIndex_df160_2 rfl tw729 ?_ ?_
  · skip
    refine zV_callS (E' := eJ3_checkIndex_8e157 (g_rmv 0)) (av := [.int (nI i), .int (nI m), .null]) (st := []) dJ0_checkIndex_df160_5 rfl (k_RJ0_1059 _) rfl ⟨by decide, by decide⟩ ⟨by decide, by decide⟩ (Or.inl rfl) rfl (Nat.le_of_ble_eq_true rfl) (c_ckI0 hi hm) (fun r5 M5 z => ?_)
    obtain ⟨rfl, rfl⟩ := z
    show zV G (eJ0_checkIndex_df160 (g_rmv 1)) (0, 0) 8 [(0, .int (nI i)), (1, .int (nI m))] [.int (nI i)] (mm I J t) _
    refine zV_pop dJ0_checkIndex_df160_8 rfl rfl ?_
    exact zV_return dJ0_checkIndex_df160_9 rfl (⟨rfl, rfl⟩)
  · skip
    refine zV_callS (E' := eJ3_checkIndex_8e157 (g_rmv 0)) (av := [.int (nI i), .int (nI m), .ref 1302]) (st := []) dJ0_checkIndex_df160_5 rfl (k_RJ0_1059 _) rfl ⟨by decide, by decide⟩ ⟨by decide, by decide⟩ (Or.inl rfl) rfl (Nat.le_of_ble_eq_true rfl) (c_ckI1 hi hm) (fun r5 M5 z => ?_)
    obtain ⟨rfl, rfl⟩ := z
    show zV G (eJ0_checkIndex_df160 (g_rmv 1)) (0, 0) 8 [(0, .int (nI i)), (1, .int (nI m))] [.int (nI i)] (mm I J t) _
    refine zV_pop dJ0_checkIndex_df160_8 rfl rfl ?_
    exact zV_return dJ0_checkIndex_df160_9 rfl (⟨rfl, rfl⟩)

set_option maxRecDepth 100000 in
theorem c_charAt1 {G : mG} {I : Nat → Nat → Int32} {J : Nat → Nat → Int64} {tm : Nat} {t j : Nat} (ht : t < 11) (hj : j < g_len.getD t 0) : zC G yJ1_charAt_3b067 (eJ1_charAt_3b067 (g_rmv 2)) [.ref (1100 + t), .int (nI j)] (mm I J tm) (fun r M => r = some (.int ((g_byt.getD t []).getD j 0)) ∧ M = mm I J tm) := by
  refine zC_of (by decide +kernel) rfl (by decide) (Nat.le_of_ble_eq_true rfl) ?_
  show zV G (eJ1_charAt_3b067 (g_rmv 2)) (0, 0) 0 [(0, .ref (1100 + t)), (1, .int (nI j))] [] (mm I J tm) _
  refine zV_iload_n dJ1_charAt_3b067_0 rfl 1 rfl rfl ?_
  refine zV_aload_n dJ1_charAt_3b067_1 rfl 0 rfl rfl ?_
  refine zV_strLen t ht dJ1_charAt_3b067_2 rfl ?_
  refine zV_callS (E' := eJ0_checkIndex_df160 (g_rmv 1)) (av := [.int (nI j), .int (nI (g_len.getD t 0))]) (st := []) dJ1_charAt_3b067_3 rfl (k_RJ1_9 _) rfl ⟨by decide, by decide⟩ ⟨by decide, by decide⟩ (Or.inl rfl) rfl (Nat.le_of_ble_eq_true rfl) (c_ckI hj (by have := g_len_7 t ht; omega)) (fun r3 M3 z => ?_)
  obtain ⟨rfl, rfl⟩ := z
  show zV G (eJ1_charAt_3b067 (g_rmv 2)) (0, 0) 6 [(0, .ref (1100 + t)), (1, .int (nI j))] [] (mm I J tm) _
  refine zV_aload_n dJ1_charAt_3b067_6 rfl 0 rfl rfl ?_
  refine zV_iload_n dJ1_charAt_3b067_7 rfl 1 rfl rfl ?_
  refine zV_strByte t j ht dJ1_charAt_3b067_8 rfl rfl hj (g_len_le t ht) ?_
  refine zV_sipush (v := (nI 255)) dJ1_charAt_3b067_9 rfl rfl ?_
  refine zA_iand (z := (((g_byt.getD t []).getD j 0) &&& nI 255)) dJ1_charAt_3b067_12 rfl  (rfl) ?_
  refine zA_i2c (z := ((g_byt.getD t []).getD j 0)) dJ1_charAt_3b067_13 rfl (g_byt_c t ht j hj) ?_
  exact zV_ireturn dJ1_charAt_3b067_14 rfl (g_byt_n t ht j hj) (⟨rfl, rfl⟩)

set_option maxRecDepth 100000 in
theorem c_charAt {G : mG} {I : Nat → Nat → Int32} {J : Nat → Nat → Int64} {tm : Nat} {t j : Nat} (ht : t < 11) (hj : j < g_len.getD t 0) : zC G yJ0_charAt_5068e (eJ0_charAt_5068e (g_rmv 4)) [.ref (1000 + t), .int (nI j)] (mm I J tm) (fun r M => r = some (.int ((g_byt.getD t []).getD j 0)) ∧ M = mm I J tm) := by
  refine zC_of (by decide +kernel) rfl (by decide) (Nat.le_of_ble_eq_true rfl) ?_
  show zV G (eJ0_charAt_5068e (g_rmv 4)) (0, 0) 0 [(0, .ref (1000 + t)), (1, .int (nI j))] [] (mm I J tm) _
  refine zV_aload_n dJ0_charAt_5068e_0 rfl 0 rfl rfl ?_
  refine zV_callVs (E' := eJ0_isLatin1_aae02 (g_rmv 0)) (av := []) (st := []) (t := t) ht dJ0_charAt_5068e_1 rfl (k_RJ0_492 _) rfl ⟨by decide, by decide⟩ ⟨by decide, by decide⟩ (Or.inl rfl) rfl (Nat.le_of_ble_eq_true rfl) rfl (c_isLatin1 ht) (fun r1 M1 z => ?_)
  obtain ⟨rfl, rfl⟩ := z
  show zV G (eJ0_charAt_5068e (g_rmv 4)) (0, 0) 4 [(0, .ref (1000 + t)), (1, .int (nI j))] [.int (nI 1)] (mm I J tm) _
  refine zN_if_eq (tgt := 16) dJ0_charAt_5068e_4 rfl rfl (by omega) (fun z => absurd z (by decide)) (fun _ => ?_)
  refine zV_aload_n dJ0_charAt_5068e_7 rfl 0 rfl rfl ?_
  refine zV_strVal t ht dJ0_charAt_5068e_8 rfl tw1386 ?_
  refine zV_iload_n dJ0_charAt_5068e_11 rfl 1 rfl rfl ?_
  refine zV_callS (E' := eJ1_charAt_3b067 (g_rmv 2)) (av := [.ref (1100 + t), .int (nI j)]) (st := []) dJ0_charAt_5068e_12 rfl (k_RJ0_495 _) rfl ⟨by decide, by decide⟩ ⟨by decide, by decide⟩ (Or.inl rfl) rfl (Nat.le_of_ble_eq_true rfl) (c_charAt1 ht hj) (fun r12 M12 z => ?_)
  obtain ⟨rfl, rfl⟩ := z
  show zV G (eJ0_charAt_5068e (g_rmv 4)) (0, 0) 15 [(0, .ref (1000 + t)), (1, .int (nI j))] [.int ((g_byt.getD t []).getD j 0)] (mm I J tm) _
  exact zV_ireturn dJ0_charAt_5068e_15 rfl (g_byt_n t ht j hj) (⟨rfl, rfl⟩)

set_option maxRecDepth 100000 in
theorem c_isLetter {G : mG} {I : Nat → Nat → Int32} {J : Nat → Nat → Int64} {t : Nat} {b : Nat} (hb : b < 256) : zC G yX3_isLetter (eX3_isLetter (g_rmv 0)) [.int (nI b)] (mm I J t) (fun r M => r = some (.int (b2 (isLt b = true))) ∧ M = mm I J t) := by
  refine zC_of (by decide +kernel) rfl (by decide) (Nat.le_of_ble_eq_true rfl) ?_
  show zV G (eX3_isLetter (g_rmv 0)) (0, 0) 0 [(0, .int (nI b))] [] (mm I J t) _
  refine zV_iload_n dX3_isLetter_0 rfl 0 rfl rfl ?_
  refine zV_bipush (v := (nI 97)) dX3_isLetter_1 rfl rfl ?_
  refine zN_icmp_lt (tgt := 16) dX3_isLetter_3 rfl rfl (by omega) (by omega) (fun h3 => ?_) (fun h3 => ?_)
  · refine zV_iconst (v := (nI 0)) dX3_isLetter_16 rfl rfl ?_
    exact zV_ireturn dX3_isLetter_17 rfl rfl (⟨z_b0 (by simp only [isLt, decide_eq_true_eq]; omega), rfl⟩)
  · refine zV_iload_n dX3_isLetter_6 rfl 0 rfl rfl ?_
    refine zV_bipush (v := (nI 122)) dX3_isLetter_7 rfl rfl ?_
    refine zN_icmp_gt (tgt := 16) dX3_isLetter_9 rfl rfl (by omega) (by omega) (fun h9 => ?_) (fun h9 => ?_)
    · refine zV_iconst (v := (nI 0)) dX3_isLetter_16 rfl rfl ?_
      exact zV_ireturn dX3_isLetter_17 rfl rfl (⟨z_b0 (by simp only [isLt, decide_eq_true_eq]; omega), rfl⟩)
    · refine zV_iconst (v := (nI 1)) dX3_isLetter_12 rfl rfl ?_
      refine zV_goto (tgt := 17) dX3_isLetter_13 rfl ?_
      exact zV_ireturn dX3_isLetter_17 rfl rfl (⟨z_b1 (by simp only [isLt, decide_eq_true_eq]; omega), rfl⟩)

set_option maxRecDepth 100000 in
theorem c_isDigit {G : mG} {I : Nat → Nat → Int32} {J : Nat → Nat → Int64} {t : Nat} {b : Nat} (hb : b < 256) : zC G yX3_isDigit (eX3_isDigit (g_rmv 0)) [.int (nI b)] (mm I J t) (fun r M => r = some (.int (b2 (isDg b = true))) ∧ M = mm I J t) := by
  refine zC_of (by decide +kernel) rfl (by decide) (Nat.le_of_ble_eq_true rfl) ?_
  show zV G (eX3_isDigit (g_rmv 0)) (0, 0) 0 [(0, .int (nI b))] [] (mm I J t) _
  refine zV_iload_n dX3_isDigit_0 rfl 0 rfl rfl ?_
  refine zV_bipush (v := (nI 48)) dX3_isDigit_1 rfl rfl ?_
  refine zN_icmp_lt (tgt := 16) dX3_isDigit_3 rfl rfl (by omega) (by omega) (fun h3 => ?_) (fun h3 => ?_)
  · refine zV_iconst (v := (nI 0)) dX3_isDigit_16 rfl rfl ?_
    exact zV_ireturn dX3_isDigit_17 rfl rfl (⟨z_b0 (by simp only [isDg, decide_eq_true_eq]; omega), rfl⟩)
  · refine zV_iload_n dX3_isDigit_6 rfl 0 rfl rfl ?_
    refine zV_bipush (v := (nI 57)) dX3_isDigit_7 rfl rfl ?_
    refine zN_icmp_gt (tgt := 16) dX3_isDigit_9 rfl rfl (by omega) (by omega) (fun h9 => ?_) (fun h9 => ?_)
    · refine zV_iconst (v := (nI 0)) dX3_isDigit_16 rfl rfl ?_
      exact zV_ireturn dX3_isDigit_17 rfl rfl (⟨z_b0 (by simp only [isDg, decide_eq_true_eq]; omega), rfl⟩)
    · refine zV_iconst (v := (nI 1)) dX3_isDigit_12 rfl rfl ?_
      refine zV_goto (tgt := 17) dX3_isDigit_13 rfl ?_
      exact zV_ireturn dX3_isDigit_17 rfl rfl (⟨z_b1 (by simp only [isDg, decide_eq_true_eq]; omega), rfl⟩)

set_option maxRecDepth 100000 in
theorem c_nameOf0 {G : mG} {I : Nat → Nat → Int32} {J : Nat → Nat → Int64} {t : Nat}  : zC G yX3_nameOf (eX3_nameOf (g_rmv 0)) [.int (nI 0)] (mm I J t) (fun r M => r = some (.ref (1000 + 0)) ∧ M = mm I J t) := by
  refine zC_of (by decide +kernel) rfl (by decide) (Nat.le_of_ble_eq_true rfl) ?_
  show zV G (eX3_nameOf (g_rmv 0)) (0, 0) 0 [(0, .int (nI 0))] [] (mm I J t) _
  refine zV_iload_n dX3_nameOf_0 rfl 0 rfl rfl ?_
  refine zN_tbl (lo' := 1) (hi' := 6) (td := 58) dX3_nameOf_1 rfl rfl (by omega) rfl (fun h1 => ?_) (fun i hi1 hi2 h1 => ?_)
  · refine zV_ldcS (i := 0) (tx := "coin") dX3_nameOf_58 rfl (by decide) ?_
    exact zV_areturn dX3_nameOf_60 rfl (⟨rfl, rfl⟩)
  · rcases (show i = 1 ∨ i = 2 ∨ i = 3 ∨ i = 4 ∨ i = 5 ∨ i = 6 by omega) with rfl | rfl | rfl | rfl | rfl | rfl
    · refine ⟨_, 40, rfl, rfl, ?_⟩
      exact absurd h1 (by decide)
    · refine ⟨_, 43, rfl, rfl, ?_⟩
      exact absurd h1 (by decide)
    · refine ⟨_, 46, rfl, rfl, ?_⟩
      exact absurd h1 (by decide)
    · refine ⟨_, 49, rfl, rfl, ?_⟩
      exact absurd h1 (by decide)
    · refine ⟨_, 52, rfl, rfl, ?_⟩
      exact absurd h1 (by decide)
    · refine ⟨_, 55, rfl, rfl, ?_⟩
      exact absurd h1 (by decide)

set_option maxRecDepth 100000 in
theorem c_nameOf1 {G : mG} {I : Nat → Nat → Int32} {J : Nat → Nat → Int64} {t : Nat}  : zC G yX3_nameOf (eX3_nameOf (g_rmv 0)) [.int (nI 1)] (mm I J t) (fun r M => r = some (.ref (1000 + 1)) ∧ M = mm I J t) := by
  refine zC_of (by decide +kernel) rfl (by decide) (Nat.le_of_ble_eq_true rfl) ?_
  show zV G (eX3_nameOf (g_rmv 0)) (0, 0) 0 [(0, .int (nI 1))] [] (mm I J t) _
  refine zV_iload_n dX3_nameOf_0 rfl 0 rfl rfl ?_
  refine zN_tbl (lo' := 1) (hi' := 6) (td := 58) dX3_nameOf_1 rfl rfl (by omega) rfl (fun h1 => ?_) (fun i hi1 hi2 h1 => ?_)
  · exact absurd h1 (by decide)
  · rcases (show i = 1 ∨ i = 2 ∨ i = 3 ∨ i = 4 ∨ i = 5 ∨ i = 6 by omega) with rfl | rfl | rfl | rfl | rfl | rfl
    · refine ⟨_, 40, rfl, rfl, ?_⟩
      refine zV_ldcS (i := 1) (tx := "heavy") dX3_nameOf_40 rfl (by decide) ?_
      exact zV_areturn dX3_nameOf_42 rfl (⟨rfl, rfl⟩)
    · refine ⟨_, 43, rfl, rfl, ?_⟩
      exact absurd h1 (by decide)
    · refine ⟨_, 46, rfl, rfl, ?_⟩
      exact absurd h1 (by decide)
    · refine ⟨_, 49, rfl, rfl, ?_⟩
      exact absurd h1 (by decide)
    · refine ⟨_, 52, rfl, rfl, ?_⟩
      exact absurd h1 (by decide)
    · refine ⟨_, 55, rfl, rfl, ?_⟩
      exact absurd h1 (by decide)

set_option maxRecDepth 100000 in
theorem c_nameOf2 {G : mG} {I : Nat → Nat → Int32} {J : Nat → Nat → Int64} {t : Nat}  : zC G yX3_nameOf (eX3_nameOf (g_rmv 0)) [.int (nI 2)] (mm I J t) (fun r M => r = some (.ref (1000 + 2)) ∧ M = mm I J t) := by
  refine zC_of (by decide +kernel) rfl (by decide) (Nat.le_of_ble_eq_true rfl) ?_
  show zV G (eX3_nameOf (g_rmv 0)) (0, 0) 0 [(0, .int (nI 2))] [] (mm I J t) _
  refine zV_iload_n dX3_nameOf_0 rfl 0 rfl rfl ?_
  refine zN_tbl (lo' := 1) (hi' := 6) (td := 58) dX3_nameOf_1 rfl rfl (by omega) rfl (fun h1 => ?_) (fun i hi1 hi2 h1 => ?_)
  · exact absurd h1 (by decide)
  · rcases (show i = 1 ∨ i = 2 ∨ i = 3 ∨ i = 4 ∨ i = 5 ∨ i = 6 by omega) with rfl | rfl | rfl | rfl | rfl | rfl
    · refine ⟨_, 40, rfl, rfl, ?_⟩
      exact absurd h1 (by decide)
    · refine ⟨_, 43, rfl, rfl, ?_⟩
      refine zV_ldcS (i := 2) (tx := "edged") dX3_nameOf_43 rfl (by decide) ?_
      exact zV_areturn dX3_nameOf_45 rfl (⟨rfl, rfl⟩)
    · refine ⟨_, 46, rfl, rfl, ?_⟩
      exact absurd h1 (by decide)
    · refine ⟨_, 49, rfl, rfl, ?_⟩
      exact absurd h1 (by decide)
    · refine ⟨_, 52, rfl, rfl, ?_⟩
      exact absurd h1 (by decide)
    · refine ⟨_, 55, rfl, rfl, ?_⟩
      exact absurd h1 (by decide)

set_option maxRecDepth 100000 in
theorem c_nameOf3 {G : mG} {I : Nat → Nat → Int32} {J : Nat → Nat → Int64} {t : Nat}  : zC G yX3_nameOf (eX3_nameOf (g_rmv 0)) [.int (nI 3)] (mm I J t) (fun r M => r = some (.ref (1000 + 3)) ∧ M = mm I J t) := by
  refine zC_of (by decide +kernel) rfl (by decide) (Nat.le_of_ble_eq_true rfl) ?_
  show zV G (eX3_nameOf (g_rmv 0)) (0, 0) 0 [(0, .int (nI 3))] [] (mm I J t) _
  refine zV_iload_n dX3_nameOf_0 rfl 0 rfl rfl ?_
  refine zN_tbl (lo' := 1) (hi' := 6) (td := 58) dX3_nameOf_1 rfl rfl (by omega) rfl (fun h1 => ?_) (fun i hi1 hi2 h1 => ?_)
  · exact absurd h1 (by decide)
  · rcases (show i = 1 ∨ i = 2 ∨ i = 3 ∨ i = 4 ∨ i = 5 ∨ i = 6 by omega) with rfl | rfl | rfl | rfl | rfl | rfl
    · refine ⟨_, 40, rfl, rfl, ?_⟩
      exact absurd h1 (by decide)
    · refine ⟨_, 43, rfl, rfl, ?_⟩
      exact absurd h1 (by decide)
    · refine ⟨_, 46, rfl, rfl, ?_⟩
      refine zV_ldcS (i := 3) (tx := "forged") dX3_nameOf_46 rfl (by decide) ?_
      exact zV_areturn dX3_nameOf_48 rfl (⟨rfl, rfl⟩)
    · refine ⟨_, 49, rfl, rfl, ?_⟩
      exact absurd h1 (by decide)
    · refine ⟨_, 52, rfl, rfl, ?_⟩
      exact absurd h1 (by decide)
    · refine ⟨_, 55, rfl, rfl, ?_⟩
      exact absurd h1 (by decide)

set_option maxRecDepth 100000 in
theorem c_nameOf4 {G : mG} {I : Nat → Nat → Int32} {J : Nat → Nat → Int64} {t : Nat}  : zC G yX3_nameOf (eX3_nameOf (g_rmv 0)) [.int (nI 4)] (mm I J t) (fun r M => r = some (.ref (1000 + 4)) ∧ M = mm I J t) := by
  refine zC_of (by decide +kernel) rfl (by decide) (Nat.le_of_ble_eq_true rfl) ?_
  show zV G (eX3_nameOf (g_rmv 0)) (0, 0) 0 [(0, .int (nI 4))] [] (mm I J t) _
  refine zV_iload_n dX3_nameOf_0 rfl 0 rfl rfl ?_
  refine zN_tbl (lo' := 1) (hi' := 6) (td := 58) dX3_nameOf_1 rfl rfl (by omega) rfl (fun h1 => ?_) (fun i hi1 hi2 h1 => ?_)
  · exact absurd h1 (by decide)
  · rcases (show i = 1 ∨ i = 2 ∨ i = 3 ∨ i = 4 ∨ i = 5 ∨ i = 6 by omega) with rfl | rfl | rfl | rfl | rfl | rfl
    · refine ⟨_, 40, rfl, rfl, ?_⟩
      exact absurd h1 (by decide)
    · refine ⟨_, 43, rfl, rfl, ?_⟩
      exact absurd h1 (by decide)
    · refine ⟨_, 46, rfl, rfl, ?_⟩
      exact absurd h1 (by decide)
    · refine ⟨_, 49, rfl, rfl, ?_⟩
      refine zV_ldcS (i := 4) (tx := "twice") dX3_nameOf_49 rfl (by decide) ?_
      exact zV_areturn dX3_nameOf_51 rfl (⟨rfl, rfl⟩)
    · refine ⟨_, 52, rfl, rfl, ?_⟩
      exact absurd h1 (by decide)
    · refine ⟨_, 55, rfl, rfl, ?_⟩
      exact absurd h1 (by decide)

set_option maxRecDepth 100000 in
theorem c_nameOf5 {G : mG} {I : Nat → Nat → Int32} {J : Nat → Nat → Int64} {t : Nat}  : zC G yX3_nameOf (eX3_nameOf (g_rmv 0)) [.int (nI 5)] (mm I J t) (fun r M => r = some (.ref (1000 + 5)) ∧ M = mm I J t) := by
  refine zC_of (by decide +kernel) rfl (by decide) (Nat.le_of_ble_eq_true rfl) ?_
  show zV G (eX3_nameOf (g_rmv 0)) (0, 0) 0 [(0, .int (nI 5))] [] (mm I J t) _
  refine zV_iload_n dX3_nameOf_0 rfl 0 rfl rfl ?_
  refine zN_tbl (lo' := 1) (hi' := 6) (td := 58) dX3_nameOf_1 rfl rfl (by omega) rfl (fun h1 => ?_) (fun i hi1 hi2 h1 => ?_)
  · exact absurd h1 (by decide)
  · rcases (show i = 1 ∨ i = 2 ∨ i = 3 ∨ i = 4 ∨ i = 5 ∨ i = 6 by omega) with rfl | rfl | rfl | rfl | rfl | rfl
    · refine ⟨_, 40, rfl, rfl, ?_⟩
      exact absurd h1 (by decide)
    · refine ⟨_, 43, rfl, rfl, ?_⟩
      exact absurd h1 (by decide)
    · refine ⟨_, 46, rfl, rfl, ?_⟩
      exact absurd h1 (by decide)
    · refine ⟨_, 49, rfl, rfl, ?_⟩
      exact absurd h1 (by decide)
    · refine ⟨_, 52, rfl, rfl, ?_⟩
      refine zV_ldcS (i := 5) (tx := "worn") dX3_nameOf_52 rfl (by decide) ?_
      exact zV_areturn dX3_nameOf_54 rfl (⟨rfl, rfl⟩)
    · refine ⟨_, 55, rfl, rfl, ?_⟩
      exact absurd h1 (by decide)

set_option maxRecDepth 100000 in
theorem c_nameOf6 {G : mG} {I : Nat → Nat → Int32} {J : Nat → Nat → Int64} {t : Nat}  : zC G yX3_nameOf (eX3_nameOf (g_rmv 0)) [.int (nI 6)] (mm I J t) (fun r M => r = some (.ref (1000 + 6)) ∧ M = mm I J t) := by
  refine zC_of (by decide +kernel) rfl (by decide) (Nat.le_of_ble_eq_true rfl) ?_
  show zV G (eX3_nameOf (g_rmv 0)) (0, 0) 0 [(0, .int (nI 6))] [] (mm I J t) _
  refine zV_iload_n dX3_nameOf_0 rfl 0 rfl rfl ?_
  refine zN_tbl (lo' := 1) (hi' := 6) (td := 58) dX3_nameOf_1 rfl rfl (by omega) rfl (fun h1 => ?_) (fun i hi1 hi2 h1 => ?_)
  · exact absurd h1 (by decide)
  · rcases (show i = 1 ∨ i = 2 ∨ i = 3 ∨ i = 4 ∨ i = 5 ∨ i = 6 by omega) with rfl | rfl | rfl | rfl | rfl | rfl
    · refine ⟨_, 40, rfl, rfl, ?_⟩
      exact absurd h1 (by decide)
    · refine ⟨_, 43, rfl, rfl, ?_⟩
      exact absurd h1 (by decide)
    · refine ⟨_, 46, rfl, rfl, ?_⟩
      exact absurd h1 (by decide)
    · refine ⟨_, 49, rfl, rfl, ?_⟩
      exact absurd h1 (by decide)
    · refine ⟨_, 52, rfl, rfl, ?_⟩
      exact absurd h1 (by decide)
    · refine ⟨_, 55, rfl, rfl, ?_⟩
      refine zV_ldcS (i := 6) (tx := "foreign") dX3_nameOf_55 rfl (by decide) ?_
      exact zV_areturn dX3_nameOf_57 rfl (⟨rfl, rfl⟩)

def tkC (I : Nat → Nat → Int32) (k : aT) : Prop := I 41 2 = nI k.1 ∧ I 41 3 = nI k.2.1 ∧ I 41 4 = nI k.2.2.1 ∧ I 41 5 = nI k.2.2.2
def fr41 (I I' : Nat → Nat → Int32) : Prop := (∀ i, i ≠ 41 → I' i = I i) ∧ I' 41 1 = I 41 1
theorem fr41.rf {I : Nat → Nat → Int32} : fr41 I I := ⟨fun _ _ => rfl, rfl⟩
theorem fr41.tr {I I' I'' : Nat → Nat → Int32} (h : fr41 I I') (h' : fr41 I' I'') : fr41 I I'' := ⟨fun i hi => (h'.1 i hi).trans (h.1 i hi), h'.2.trans h.2⟩
theorem fr41.up {I I1 : Nat → Nat → Int32} {k : Nat} {v : Int32} (h : fr41 I I1) (hk : 1 ≠ k) : fr41 I (up2 I1 41 k v) := ⟨fun i hi => by rw [← h.1 i hi]; funext b; exact up2_ni hi, (up2_nk hk).trans h.2⟩
theorem tk_2 {I I1 : Nat → Nat → Int32} {a b c d x : Nat} (h : tkC I1 (a, b, c, d) ∧ fr41 I I1) : tkC (up2 I1 41 2 (nI x)) (x, b, c, d) ∧ fr41 I (up2 I1 41 2 (nI x)) := ⟨⟨up2_same _ _ _ _, (up2_nk (by decide)).trans h.1.2.1, (up2_nk (by decide)).trans h.1.2.2.1, (up2_nk (by decide)).trans h.1.2.2.2⟩, h.2.up (by decide)⟩
theorem tk_3 {I I1 : Nat → Nat → Int32} {a b c d x : Nat} (h : tkC I1 (a, b, c, d) ∧ fr41 I I1) : tkC (up2 I1 41 3 (nI x)) (a, x, c, d) ∧ fr41 I (up2 I1 41 3 (nI x)) := ⟨⟨(up2_nk (by decide)).trans h.1.1, up2_same _ _ _ _, (up2_nk (by decide)).trans h.1.2.2.1, (up2_nk (by decide)).trans h.1.2.2.2⟩, h.2.up (by decide)⟩
theorem tk_4 {I I1 : Nat → Nat → Int32} {a b c d x : Nat} (h : tkC I1 (a, b, c, d) ∧ fr41 I I1) : tkC (up2 I1 41 4 (nI x)) (a, b, x, d) ∧ fr41 I (up2 I1 41 4 (nI x)) := ⟨⟨(up2_nk (by decide)).trans h.1.1, (up2_nk (by decide)).trans h.1.2.1, up2_same _ _ _ _, (up2_nk (by decide)).trans h.1.2.2.2⟩, h.2.up (by decide)⟩
theorem tk_5 {I I1 : Nat → Nat → Int32} {a b c d x : Nat} (h : tkC I1 (a, b, c, d) ∧ fr41 I I1) : tkC (up2 I1 41 5 (nI x)) (a, b, c, x) ∧ fr41 I (up2 I1 41 5 (nI x)) := ⟨⟨(up2_nk (by decide)).trans h.1.1, (up2_nk (by decide)).trans h.1.2.1, (up2_nk (by decide)).trans h.1.2.2.1, up2_same _ _ _ _⟩, h.2.up (by decide)⟩
def rdC (I : Nat → Nat → Int32) (tp : Nat → Nat) (L : Nat) : Prop := I 41 1 = nI L ∧ L ≤ 120 ∧ (∀ j, j < L → I 40 j = nI (tp j)) ∧ ∀ j, tp j < 256
theorem rdC.mv {I I' : Nat → Nat → Int32} {tp : Nat → Nat} {L : Nat} (h : rdC I tp L) (e1 : I' 41 1 = I 41 1) (e2 : I' 40 = I 40) : rdC I' tp L := ⟨e1.trans h.1, h.2.1, by rw [e2]; exact h.2.2.1, h.2.2.2⟩
theorem nxt_end {tp : Nat → Nat} {L b : Nat} (h : ¬ scn isSp tp L b < L) : nxt tp L b = (0, scn isSp tp L b, scn isSp tp L b, 0) := if_neg h
theorem nxt_word {tp : Nat → Nat} {L b : Nat} (h : scn isSp tp L b < L) (h1 : isLt (tp (scn isSp tp L b)) = true) : nxt tp L b = (1, scn isSp tp L b, scn isLt tp L (scn isSp tp L b), 0) := (if_pos h).trans (if_pos h1)
theorem nxt_num {tp : Nat → Nat} {L b : Nat} (h : scn isSp tp L b < L) (h1 : ¬ isLt (tp (scn isSp tp L b)) = true) (h2 : isDg (tp (scn isSp tp L b)) = true) : nxt tp L b = (2, scn isSp tp L b, scn isDg tp L (scn isSp tp L b), vlu tp (scn isSp tp L b) (scn isDg tp L (scn isSp tp L b) - scn isSp tp L b)) := (if_pos h).trans ((if_neg h1).trans (if_pos h2))
theorem nxt_sign {tp : Nat → Nat} {L b : Nat} (h : scn isSp tp L b < L) (h1 : ¬ isLt (tp (scn isSp tp L b)) = true) (h2 : ¬ isDg (tp (scn isSp tp L b)) = true) : nxt tp L b = ((if tp (scn isSp tp L b) = 59 then 3 else 4), scn isSp tp L b, scn isSp tp L b + 1, 0) := (if_pos h).trans ((if_neg h1).trans (if_neg h2))
theorem fr41.use {I I' : Nat → Nat → Int32} {tp : Nat → Nat} {L : Nat} (h : fr41 I I') (hr : rdC I tp L) : rdC I' tp L := hr.mv h.2 (h.1 40 (by decide))
set_option maxRecDepth 100000 in
theorem c_step {G : mG} {I : Nat → Nat → Int32} {J : Nat → Nat → Int64} {tp : Nat → Nat} {L s0 t0 b v0 : Nat} (hr : rdC I tp L) (hb : b ≤ L) (h0 : tkC I (s0, t0, b, v0)) : zC G yX3_step (eX3_step (g_rmv 1)) [.ref 41] (mm I J 40) (fun r M => ∃ I', r = none ∧ M = mm I' J 40 ∧ tkC I' (nxt tp L b) ∧ fr41 I I') := by
  refine zC_of (by decide +kernel) rfl (by decide) (Nat.le_of_ble_eq_true rfl) ?_
  have hL := hr.2.1
  have h256 := hr.2.2.2
  have h00 : tkC I (s0, t0, b, v0) ∧ fr41 I I := ⟨h0, fr41.rf⟩
  show zV G (eX3_step (g_rmv 1)) (0, 0) 0 [(0, .ref 41)] [] (mm I J 40) _
  refine zV_aload_n dX3_step_0 rfl 0 rfl rfl ?_
  refine zV_aload_n dX3_step_1 rfl 0 rfl rfl ?_
  refine zV_getI (x := (nI b)) 4 dX3_step_2 rfl fl_RX3_25 rfl (by decide) rfl h00.1.2.2.1 ?_
  refine zV_puti 3 dX3_step_5 rfl fl_RX3_22 rfl (by decide) rfl rfl rfl ?_
  have k46 : ∀ I1, (tkC I1 (s0, (scn isSp tp L b), b, v0) ∧ fr41 I I1) → zV G (eX3_step (g_rmv 1)) (0, 0) 46 [(0, .ref 41)] [] (mm I1 J 40) (fun r M => ∃ I', r = none ∧ M = mm I' J 40 ∧ tkC I' (nxt tp L b) ∧ fr41 I I') := by
    intro I1 h1
    have hse := scn_le (p := isSp) (tp := tp) hb
    refine zV_aload_n dX3_step_46 rfl 0 rfl rfl ?_
    refine zV_aload_n dX3_step_47 rfl 0 rfl rfl ?_
    refine zV_getI (x := (nI (scn isSp tp L b))) 3 dX3_step_48 rfl fl_RX3_22 rfl (by decide) rfl h1.1.2.1 ?_
    refine zV_puti 4 dX3_step_51 rfl fl_RX3_25 rfl (by decide) rfl rfl rfl ?_
    refine zV_aload_n dX3_step_54 rfl 0 rfl rfl ?_
    refine zV_iconst (v := (nI 0)) dX3_step_55 rfl rfl ?_
    refine zV_puti 5 dX3_step_56 rfl fl_RX3_28 rfl (by decide) rfl rfl rfl ?_
    refine zV_aload_n dX3_step_59 rfl 0 rfl rfl ?_
    refine zV_getI (x := (nI (scn isSp tp L b))) 3 dX3_step_60 rfl fl_RX3_22 rfl (by decide) rfl ((tk_5 (x := 0) (tk_4 (x := (scn isSp tp L b)) h1)).1.2.1) ?_
    refine zV_aload_n dX3_step_63 rfl 0 rfl rfl ?_
    refine zV_getI (x := (nI L)) 1 dX3_step_64 rfl fl_RX3_15 rfl (by decide) rfl (((tk_5 (x := 0) (tk_4 (x := (scn isSp tp L b)) h1)).2.use hr).1) ?_
    refine zN_icmp_lt (tgt := 78) dX3_step_67 rfl rfl (by omega) (by omega) (fun h67 => ?_) (fun h67 => ?_)
    · refine zV_aload_n dX3_step_78 rfl 0 rfl rfl ?_
      refine zV_getr (q' := 40) 0 dX3_step_79 rfl fl_RX3_9 rfl (by decide) rfl rfl ?_
      refine zV_aload_n dX3_step_82 rfl 0 rfl rfl ?_
      refine zV_getI (x := (nI (scn isSp tp L b))) 3 dX3_step_83 rfl fl_RX3_22 rfl (by decide) rfl ((tk_5 (x := 0) (tk_4 (x := (scn isSp tp L b)) h1)).1.2.1) ?_
      refine zV_iald (x := (nI (tp (scn isSp tp L b)))) (scn isSp tp L b) dX3_step_86 rfl rfl rfl (by omega) (by decide) (((tk_5 (x := 0) (tk_4 (x := (scn isSp tp L b)) h1)).2.use hr).2.2.1 (scn isSp tp L b) (by omega)) ?_
      refine zV_callS (E' := eX3_isLetter (g_rmv 0)) (av := [.int (nI (tp (scn isSp tp L b)))]) (st := []) dX3_step_87 rfl (k_RX3_105 _) rfl ⟨by decide, by decide⟩ ⟨by decide, by decide⟩ (Or.inl rfl) rfl (Nat.le_of_ble_eq_true rfl) (c_isLetter (b := (tp (scn isSp tp L b))) (h256 _)) (fun r87 M87 z => ?_)
      obtain ⟨rfl, rfl⟩ := z
      show zV G (eX3_step (g_rmv 1)) (0, 0) 90 [(0, .ref 41)] [.int (b2 (isLt (tp (scn isSp tp L b)) = true))] (mm (up2 (up2 I1 41 4 (nI (scn isSp tp L b))) 41 5 (nI 0)) J 40) _
      refine zB_if_eq (tgt := 137) dX3_step_90 rfl rfl  (fun h90 => ?_) (fun h90 => ?_)
      · refine zV_aload_n dX3_step_137 rfl 0 rfl rfl ?_
        refine zV_getr (q' := 40) 0 dX3_step_138 rfl fl_RX3_9 rfl (by decide) rfl rfl ?_
        refine zV_aload_n dX3_step_141 rfl 0 rfl rfl ?_
        refine zV_getI (x := (nI (scn isSp tp L b))) 3 dX3_step_142 rfl fl_RX3_22 rfl (by decide) rfl ((tk_5 (x := 0) (tk_4 (x := (scn isSp tp L b)) h1)).1.2.1) ?_
        refine zV_iald (x := (nI (tp (scn isSp tp L b)))) (scn isSp tp L b) dX3_step_145 rfl rfl rfl (by omega) (by decide) (((tk_5 (x := 0) (tk_4 (x := (scn isSp tp L b)) h1)).2.use hr).2.2.1 (scn isSp tp L b) (by omega)) ?_
        refine zV_callS (E' := eX3_isDigit (g_rmv 0)) (av := [.int (nI (tp (scn isSp tp L b)))]) (st := []) dX3_step_146 rfl (k_RX3_108 _) rfl ⟨by decide, by decide⟩ ⟨by decide, by decide⟩ (Or.inl rfl) rfl (Nat.le_of_ble_eq_true rfl) (c_isDigit (b := (tp (scn isSp tp L b))) (h256 _)) (fun r146 M146 z => ?_)
        obtain ⟨rfl, rfl⟩ := z
        show zV G (eX3_step (g_rmv 1)) (0, 0) 149 [(0, .ref 41)] [.int (b2 (isDg (tp (scn isSp tp L b)) = true))] (mm (up2 (up2 I1 41 4 (nI (scn isSp tp L b))) 41 5 (nI 0)) J 40) _
        refine zB_if_eq (tgt := 226) dX3_step_149 rfl rfl  (fun h149 => ?_) (fun h149 => ?_)
        · refine zV_aload_n dX3_step_226 rfl 0 rfl rfl ?_
          refine zV_aload_n dX3_step_227 rfl 0 rfl rfl ?_
          refine zV_getr (q' := 40) 0 dX3_step_228 rfl fl_RX3_9 rfl (by decide) rfl rfl ?_
          refine zV_aload_n dX3_step_231 rfl 0 rfl rfl ?_
          refine zV_getI (x := (nI (scn isSp tp L b))) 3 dX3_step_232 rfl fl_RX3_22 rfl (by decide) rfl ((tk_5 (x := 0) (tk_4 (x := (scn isSp tp L b)) h1)).1.2.1) ?_
          refine zV_iald (x := (nI (tp (scn isSp tp L b)))) (scn isSp tp L b) dX3_step_235 rfl rfl rfl (by omega) (by decide) (((tk_5 (x := 0) (tk_4 (x := (scn isSp tp L b)) h1)).2.use hr).2.2.1 (scn isSp tp L b) (by omega)) ?_
          refine zV_bipush (v := (nI 59)) dX3_step_236 rfl rfl ?_
          refine zN_icmp_ne (tgt := 245) dX3_step_238 rfl rfl (Nat.lt_trans (h256 _) (by decide)) (by decide) (fun h238 => ?_) (fun h238 => ?_)
          · refine zV_iconst (v := (nI 4)) dX3_step_245 rfl rfl ?_
            refine zV_puti 2 dX3_step_246 rfl fl_RX3_19 rfl (by decide) rfl rfl rfl ?_
            refine zV_aload_n dX3_step_249 rfl 0 rfl rfl ?_
            refine zV_dup dX3_step_250 rfl rfl ?_
            refine zV_getI (x := (nI (scn isSp tp L b))) 4 dX3_step_251 rfl fl_RX3_25 rfl (by decide) rfl ((tk_2 (x := 4) (tk_5 (x := 0) (tk_4 (x := (scn isSp tp L b)) h1))).1.2.2.1) ?_
            refine zV_iconst (v := (nI 1)) dX3_step_254 rfl rfl ?_
            refine zA_iadd (z := (nI ((scn isSp tp L b) + 1))) dX3_step_255 rfl  (nI_add _ _) ?_
            refine zV_puti 4 dX3_step_256 rfl fl_RX3_25 rfl (by decide) rfl rfl rfl ?_
            exact zV_return dX3_step_259 rfl (⟨_, rfl, rfl, by rw [nxt_sign (by omega) h90 h149, if_neg h238]; exact (tk_4 (x := ((scn isSp tp L b) + 1)) (tk_2 (x := 4) (tk_5 (x := 0) (tk_4 (x := (scn isSp tp L b)) h1)))).1, (tk_4 (x := ((scn isSp tp L b) + 1)) (tk_2 (x := 4) (tk_5 (x := 0) (tk_4 (x := (scn isSp tp L b)) h1)))).2⟩)
          · refine zV_iconst (v := (nI 3)) dX3_step_241 rfl rfl ?_
            refine zV_goto (tgt := 246) dX3_step_242 rfl ?_
            refine zV_puti 2 dX3_step_246 rfl fl_RX3_19 rfl (by decide) rfl rfl rfl ?_
            refine zV_aload_n dX3_step_249 rfl 0 rfl rfl ?_
            refine zV_dup dX3_step_250 rfl rfl ?_
            refine zV_getI (x := (nI (scn isSp tp L b))) 4 dX3_step_251 rfl fl_RX3_25 rfl (by decide) rfl ((tk_2 (x := 3) (tk_5 (x := 0) (tk_4 (x := (scn isSp tp L b)) h1))).1.2.2.1) ?_
            refine zV_iconst (v := (nI 1)) dX3_step_254 rfl rfl ?_
            refine zA_iadd (z := (nI ((scn isSp tp L b) + 1))) dX3_step_255 rfl  (nI_add _ _) ?_
            refine zV_puti 4 dX3_step_256 rfl fl_RX3_25 rfl (by decide) rfl rfl rfl ?_
            exact zV_return dX3_step_259 rfl (⟨_, rfl, rfl, by rw [nxt_sign (by omega) h90 h149, if_pos h238]; exact (tk_4 (x := ((scn isSp tp L b) + 1)) (tk_2 (x := 3) (tk_5 (x := 0) (tk_4 (x := (scn isSp tp L b)) h1)))).1, (tk_4 (x := ((scn isSp tp L b) + 1)) (tk_2 (x := 3) (tk_5 (x := 0) (tk_4 (x := (scn isSp tp L b)) h1)))).2⟩)
        · refine zV_aload_n dX3_step_152 rfl 0 rfl rfl ?_
          refine zV_iconst (v := (nI 2)) dX3_step_153 rfl rfl ?_
          refine zV_puti 2 dX3_step_154 rfl fl_RX3_19 rfl (by decide) rfl rfl rfl ?_
          refine z_for (fun i => ∀ I1, (tkC I1 (2, (scn isSp tp L b), (scn isSp tp L b) + i, (vlu tp (scn isSp tp L b) i)) ∧ fr41 I I1) → (∀ j, j < i → isDg (tp ((scn isSp tp L b) + j)) = true) → zV G (eX3_step (g_rmv 1)) (0, 0) 157 [(0, .ref 41)] [] (mm I1 J 40) _) (L - (scn isSp tp L b)) ?_ ?_ 0 (Nat.zero_le _) (up2 (up2 (up2 I1 41 4 (nI (scn isSp tp L b))) 41 5 (nI 0)) 41 2 (nI 2)) (tk_2 (x := 2) (tk_5 (x := 0) (tk_4 (x := (scn isSp tp L b)) h1))) (fun j h => absurd h (Nat.not_lt_zero _))
          · intro I2 h2 hno
            have vb := vlu_le tp (scn isSp tp L b) (L - (scn isSp tp L b))
            refine zV_aload_n dX3_step_157 rfl 0 rfl rfl ?_
            refine zV_getI (x := (nI ((scn isSp tp L b) + (L - (scn isSp tp L b))))) 4 dX3_step_158 rfl fl_RX3_25 rfl (by decide) rfl h2.1.2.2.1 ?_
            refine zV_aload_n dX3_step_161 rfl 0 rfl rfl ?_
            refine zV_getI (x := (nI L)) 1 dX3_step_162 rfl fl_RX3_15 rfl (by decide) rfl ((h2.2.use hr).1) ?_
            refine zN_icmp_ge (tgt := 259) dX3_step_165 rfl rfl (by omega) (by omega) (fun _ => ?_) (fun z => absurd z (by omega))
            exact zV_return dX3_step_259 rfl (⟨_, rfl, rfl, by rw [nxt_num (by omega) h90 h149, scn_end (p := isDg) (by omega) hno, show (scn isSp tp L b) + (L - (scn isSp tp L b)) - (scn isSp tp L b) = (L - (scn isSp tp L b)) by omega]; exact h2.1, h2.2⟩)
          · intro i hi ih I2 h2 hno
            have vb := vlu_le tp (scn isSp tp L b) i
            refine zV_aload_n dX3_step_157 rfl 0 rfl rfl ?_
            refine zV_getI (x := (nI ((scn isSp tp L b) + i))) 4 dX3_step_158 rfl fl_RX3_25 rfl (by decide) rfl h2.1.2.2.1 ?_
            refine zV_aload_n dX3_step_161 rfl 0 rfl rfl ?_
            refine zV_getI (x := (nI L)) 1 dX3_step_162 rfl fl_RX3_15 rfl (by decide) rfl ((h2.2.use hr).1) ?_
            refine zN_icmp_ge (tgt := 259) dX3_step_165 rfl rfl (by omega) (by omega) (fun z => absurd z (by omega)) (fun _ => ?_)
            refine zV_aload_n dX3_step_168 rfl 0 rfl rfl ?_
            refine zV_getr (q' := 40) 0 dX3_step_169 rfl fl_RX3_9 rfl (by decide) rfl rfl ?_
            refine zV_aload_n dX3_step_172 rfl 0 rfl rfl ?_
            refine zV_getI (x := (nI ((scn isSp tp L b) + i))) 4 dX3_step_173 rfl fl_RX3_25 rfl (by decide) rfl h2.1.2.2.1 ?_
            refine zV_iald (x := (nI (tp ((scn isSp tp L b) + i)))) ((scn isSp tp L b) + i) dX3_step_176 rfl rfl rfl (by omega) (by decide) ((h2.2.use hr).2.2.1 ((scn isSp tp L b) + i) (by omega)) ?_
            refine zV_callS (E' := eX3_isDigit (g_rmv 0)) (av := [.int (nI (tp ((scn isSp tp L b) + i)))]) (st := []) dX3_step_177 rfl (k_RX3_108 _) rfl ⟨by decide, by decide⟩ ⟨by decide, by decide⟩ (Or.inl rfl) rfl (Nat.le_of_ble_eq_true rfl) (c_isDigit (b := (tp ((scn isSp tp L b) + i))) (h256 _)) (fun r177 M177 z => ?_)
            obtain ⟨rfl, rfl⟩ := z
            show zV G (eX3_step (g_rmv 1)) (0, 0) 180 [(0, .ref 41)] [.int (b2 (isDg (tp ((scn isSp tp L b) + i)) = true))] (mm I2 J 40) _
            refine zB_if_eq (tgt := 259) dX3_step_180 rfl rfl  (fun h180 => ?_) (fun h180 => ?_)
            · exact zV_return dX3_step_259 rfl (⟨_, rfl, rfl, by rw [nxt_num (by omega) h90 h149, scn_at (p := isDg) hi hno h180, show (scn isSp tp L b) + i - (scn isSp tp L b) = i by omega]; exact h2.1, h2.2⟩)
            · refine zV_aload_n dX3_step_183 rfl 0 rfl rfl ?_
              refine zV_sipush (v := (nI 1000)) dX3_step_184 rfl rfl ?_
              refine zV_aload_n dX3_step_187 rfl 0 rfl rfl ?_
              refine zV_getI (x := (nI (vlu tp (scn isSp tp L b) i))) 5 dX3_step_188 rfl fl_RX3_28 rfl (by decide) rfl h2.1.2.2.2 ?_
              refine zV_bipush (v := (nI 10)) dX3_step_191 rfl rfl ?_
              refine zA_imul (z := (nI (vlu tp (scn isSp tp L b) i * 10))) dX3_step_193 rfl  (pk_mul _ _) ?_
              refine zV_aload_n dX3_step_194 rfl 0 rfl rfl ?_
              refine zV_getr (q' := 40) 0 dX3_step_195 rfl fl_RX3_9 rfl (by decide) rfl rfl ?_
              refine zV_aload_n dX3_step_198 rfl 0 rfl rfl ?_
              refine zV_getI (x := (nI ((scn isSp tp L b) + i))) 4 dX3_step_199 rfl fl_RX3_25 rfl (by decide) rfl h2.1.2.2.1 ?_
              refine zV_iald (x := (nI (tp ((scn isSp tp L b) + i)))) ((scn isSp tp L b) + i) dX3_step_202 rfl rfl rfl (by omega) (by decide) ((h2.2.use hr).2.2.1 ((scn isSp tp L b) + i) (by omega)) ?_
              refine zA_iadd (z := (nI (vlu tp (scn isSp tp L b) i * 10 + tp ((scn isSp tp L b) + i)))) dX3_step_203 rfl  (nI_add _ _) ?_
              refine zV_bipush (v := (nI 48)) dX3_step_204 rfl rfl ?_
              refine zA_isub (z := (nI (vlu tp (scn isSp tp L b) i * 10 + tp ((scn isSp tp L b) + i) - 48))) dX3_step_206 rfl  (pk_sub (by have := (of_decide_eq_true h180).1; omega)) ?_
              refine zV_callS (E' := eJ9_min_7cf53 (g_rmv 0)) (av := [.int (nI 1000), .int (nI (vlu tp (scn isSp tp L b) i * 10 + tp ((scn isSp tp L b) + i) - 48))]) (st := [.ref 41]) dX3_step_207 rfl (k_RX3_31 _) rfl ⟨by decide, by decide⟩ ⟨by decide, by decide⟩ (Or.inl rfl) rfl (Nat.le_of_ble_eq_true rfl) (c_minn (a := 1000) (b := (vlu tp (scn isSp tp L b) i * 10 + tp ((scn isSp tp L b) + i) - 48)) (by omega) (by have := h256 ((scn isSp tp L b) + i); omega)) (fun r207 M207 z => ?_)
              obtain ⟨rfl, rfl⟩ := z
              show zV G (eX3_step (g_rmv 1)) (0, 0) 210 [(0, .ref 41)] [.int (nI (vlu tp (scn isSp tp L b) (i + 1))), .ref 41] (mm I2 J 40) _
              refine zV_puti 5 dX3_step_210 rfl fl_RX3_28 rfl (by decide) rfl rfl rfl ?_
              refine zV_aload_n dX3_step_213 rfl 0 rfl rfl ?_
              refine zV_dup dX3_step_214 rfl rfl ?_
              refine zV_getI (x := (nI ((scn isSp tp L b) + i))) 4 dX3_step_215 rfl fl_RX3_25 rfl (by decide) rfl ((tk_5 (x := (vlu tp (scn isSp tp L b) (i + 1))) h2).1.2.2.1) ?_
              refine zV_iconst (v := (nI 1)) dX3_step_218 rfl rfl ?_
              refine zA_iadd (z := (nI ((scn isSp tp L b) + (i + 1)))) dX3_step_219 rfl  (nI_1 _) ?_
              refine zV_puti 4 dX3_step_220 rfl fl_RX3_25 rfl (by decide) rfl rfl rfl ?_
              refine zV_goto (tgt := 157) dX3_step_223 rfl ?_
              exact ih (up2 (up2 I2 41 5 (nI (vlu tp (scn isSp tp L b) (i + 1)))) 41 4 (nI ((scn isSp tp L b) + (i + 1)))) (tk_4 (x := ((scn isSp tp L b) + (i + 1))) (tk_5 (x := (vlu tp (scn isSp tp L b) (i + 1))) h2)) (fun j hj => by (by_cases e : j = i); (· subst e; exact h180); (· exact hno j (by omega)))
      · refine zV_aload_n dX3_step_93 rfl 0 rfl rfl ?_
        refine zV_iconst (v := (nI 1)) dX3_step_94 rfl rfl ?_
        refine zV_puti 2 dX3_step_95 rfl fl_RX3_19 rfl (by decide) rfl rfl rfl ?_
        refine z_for (fun i => ∀ I1, (tkC I1 (1, (scn isSp tp L b), (scn isSp tp L b) + i, 0) ∧ fr41 I I1) → (∀ j, j < i → isLt (tp ((scn isSp tp L b) + j)) = true) → zV G (eX3_step (g_rmv 1)) (0, 0) 98 [(0, .ref 41)] [] (mm I1 J 40) _) (L - (scn isSp tp L b)) ?_ ?_ 0 (Nat.zero_le _) (up2 (up2 (up2 I1 41 4 (nI (scn isSp tp L b))) 41 5 (nI 0)) 41 2 (nI 1)) (tk_2 (x := 1) (tk_5 (x := 0) (tk_4 (x := (scn isSp tp L b)) h1))) (fun j h => absurd h (Nat.not_lt_zero _))
        · intro I2 h2 hno
          refine zV_aload_n dX3_step_98 rfl 0 rfl rfl ?_
          refine zV_getI (x := (nI ((scn isSp tp L b) + (L - (scn isSp tp L b))))) 4 dX3_step_99 rfl fl_RX3_25 rfl (by decide) rfl h2.1.2.2.1 ?_
          refine zV_aload_n dX3_step_102 rfl 0 rfl rfl ?_
          refine zV_getI (x := (nI L)) 1 dX3_step_103 rfl fl_RX3_15 rfl (by decide) rfl ((h2.2.use hr).1) ?_
          refine zN_icmp_ge (tgt := 259) dX3_step_106 rfl rfl (by omega) (by omega) (fun _ => ?_) (fun z => absurd z (by omega))
          exact zV_return dX3_step_259 rfl (⟨_, rfl, rfl, by rw [nxt_word (by omega) h90, scn_end (p := isLt) (by omega) hno]; exact h2.1, h2.2⟩)
        · intro i hi ih I2 h2 hno
          refine zV_aload_n dX3_step_98 rfl 0 rfl rfl ?_
          refine zV_getI (x := (nI ((scn isSp tp L b) + i))) 4 dX3_step_99 rfl fl_RX3_25 rfl (by decide) rfl h2.1.2.2.1 ?_
          refine zV_aload_n dX3_step_102 rfl 0 rfl rfl ?_
          refine zV_getI (x := (nI L)) 1 dX3_step_103 rfl fl_RX3_15 rfl (by decide) rfl ((h2.2.use hr).1) ?_
          refine zN_icmp_ge (tgt := 259) dX3_step_106 rfl rfl (by omega) (by omega) (fun z => absurd z (by omega)) (fun _ => ?_)
          refine zV_aload_n dX3_step_109 rfl 0 rfl rfl ?_
          refine zV_getr (q' := 40) 0 dX3_step_110 rfl fl_RX3_9 rfl (by decide) rfl rfl ?_
          refine zV_aload_n dX3_step_113 rfl 0 rfl rfl ?_
          refine zV_getI (x := (nI ((scn isSp tp L b) + i))) 4 dX3_step_114 rfl fl_RX3_25 rfl (by decide) rfl h2.1.2.2.1 ?_
          refine zV_iald (x := (nI (tp ((scn isSp tp L b) + i)))) ((scn isSp tp L b) + i) dX3_step_117 rfl rfl rfl (by omega) (by decide) ((h2.2.use hr).2.2.1 ((scn isSp tp L b) + i) (by omega)) ?_
          refine zV_callS (E' := eX3_isLetter (g_rmv 0)) (av := [.int (nI (tp ((scn isSp tp L b) + i)))]) (st := []) dX3_step_118 rfl (k_RX3_105 _) rfl ⟨by decide, by decide⟩ ⟨by decide, by decide⟩ (Or.inl rfl) rfl (Nat.le_of_ble_eq_true rfl) (c_isLetter (b := (tp ((scn isSp tp L b) + i))) (h256 _)) (fun r118 M118 z => ?_)
          obtain ⟨rfl, rfl⟩ := z
          show zV G (eX3_step (g_rmv 1)) (0, 0) 121 [(0, .ref 41)] [.int (b2 (isLt (tp ((scn isSp tp L b) + i)) = true))] (mm I2 J 40) _
          refine zB_if_eq (tgt := 259) dX3_step_121 rfl rfl  (fun h121 => ?_) (fun h121 => ?_)
          · exact zV_return dX3_step_259 rfl (⟨_, rfl, rfl, by rw [nxt_word (by omega) h90, scn_at (p := isLt) hi hno h121]; exact h2.1, h2.2⟩)
          · refine zV_aload_n dX3_step_124 rfl 0 rfl rfl ?_
            refine zV_dup dX3_step_125 rfl rfl ?_
            refine zV_getI (x := (nI ((scn isSp tp L b) + i))) 4 dX3_step_126 rfl fl_RX3_25 rfl (by decide) rfl h2.1.2.2.1 ?_
            refine zV_iconst (v := (nI 1)) dX3_step_129 rfl rfl ?_
            refine zA_iadd (z := (nI ((scn isSp tp L b) + (i + 1)))) dX3_step_130 rfl  (nI_1 _) ?_
            refine zV_puti 4 dX3_step_131 rfl fl_RX3_25 rfl (by decide) rfl rfl rfl ?_
            refine zV_goto (tgt := 98) dX3_step_134 rfl ?_
            exact ih (up2 I2 41 4 (nI ((scn isSp tp L b) + (i + 1)))) (tk_4 (x := ((scn isSp tp L b) + (i + 1))) h2) (fun j hj => by (by_cases e : j = i); (· subst e; exact h121); (· exact hno j (by omega)))
    · refine zV_aload_n dX3_step_70 rfl 0 rfl rfl ?_
      refine zV_iconst (v := (nI 0)) dX3_step_71 rfl rfl ?_
      refine zV_puti 2 dX3_step_72 rfl fl_RX3_19 rfl (by decide) rfl rfl rfl ?_
      refine zV_goto (tgt := 259) dX3_step_75 rfl ?_
      exact zV_return dX3_step_259 rfl (⟨_, rfl, rfl, by rw [nxt_end (by omega)]; exact (tk_2 (x := 0) (tk_5 (x := 0) (tk_4 (x := (scn isSp tp L b)) h1))).1, (tk_2 (x := 0) (tk_5 (x := 0) (tk_4 (x := (scn isSp tp L b)) h1))).2⟩)
  refine z_for (fun i => ∀ I1, (tkC I1 (s0, b + i, b, v0) ∧ fr41 I I1) → (∀ j, j < i → isSp (tp (b + j)) = true) → zV G (eX3_step (g_rmv 1)) (0, 0) 8 [(0, .ref 41)] [] (mm I1 J 40) _) (L - b) ?_ ?_ 0 (Nat.zero_le _) (up2 I 41 3 (nI b)) (tk_3 (x := b) h00) (fun j h => absurd h (Nat.not_lt_zero _))
  · intro I1 h1 hno
    refine zV_aload_n dX3_step_8 rfl 0 rfl rfl ?_
    refine zV_getI (x := (nI (b + (L - b)))) 3 dX3_step_9 rfl fl_RX3_22 rfl (by decide) rfl h1.1.2.1 ?_
    refine zV_aload_n dX3_step_12 rfl 0 rfl rfl ?_
    refine zV_getI (x := (nI L)) 1 dX3_step_13 rfl fl_RX3_15 rfl (by decide) rfl ((h1.2.use hr).1) ?_
    refine zN_icmp_ge (tgt := 46) dX3_step_16 rfl rfl (by omega) (by omega) (fun _ => ?_) (fun z => absurd z (by omega))
    exact k46 I1 (by rw [scn_end hb hno]; exact h1)
  · intro i hi ih I1 h1 hno
    refine zV_aload_n dX3_step_8 rfl 0 rfl rfl ?_
    refine zV_getI (x := (nI (b + i))) 3 dX3_step_9 rfl fl_RX3_22 rfl (by decide) rfl h1.1.2.1 ?_
    refine zV_aload_n dX3_step_12 rfl 0 rfl rfl ?_
    refine zV_getI (x := (nI L)) 1 dX3_step_13 rfl fl_RX3_15 rfl (by decide) rfl ((h1.2.use hr).1) ?_
    refine zN_icmp_ge (tgt := 46) dX3_step_16 rfl rfl (by omega) (by omega) (fun z => absurd z (by omega)) (fun _ => ?_)
    refine zV_aload_n dX3_step_19 rfl 0 rfl rfl ?_
    refine zV_getr (q' := 40) 0 dX3_step_20 rfl fl_RX3_9 rfl (by decide) rfl rfl ?_
    refine zV_aload_n dX3_step_23 rfl 0 rfl rfl ?_
    refine zV_getI (x := (nI (b + i))) 3 dX3_step_24 rfl fl_RX3_22 rfl (by decide) rfl h1.1.2.1 ?_
    refine zV_iald (x := (nI (tp (b + i)))) (b + i) dX3_step_27 rfl rfl rfl (by omega) (by decide) ((h1.2.use hr).2.2.1 (b + i) (by omega)) ?_
    refine zV_bipush (v := (nI 32)) dX3_step_28 rfl rfl ?_
    refine zN_icmp_ne (tgt := 46) dX3_step_30 rfl rfl (Nat.lt_trans (h256 _) (by decide)) (by decide) (fun h30 => ?_) (fun h30 => ?_)
    · exact k46 I1 (by rw [scn_at hi hno (fun z => h30 (of_decide_eq_true z))]; exact h1)
    · refine zV_aload_n dX3_step_33 rfl 0 rfl rfl ?_
      refine zV_dup dX3_step_34 rfl rfl ?_
      refine zV_getI (x := (nI (b + i))) 3 dX3_step_35 rfl fl_RX3_22 rfl (by decide) rfl h1.1.2.1 ?_
      refine zV_iconst (v := (nI 1)) dX3_step_38 rfl rfl ?_
      refine zA_iadd (z := (nI (b + (i + 1)))) dX3_step_39 rfl  (nI_1 _) ?_
      refine zV_puti 3 dX3_step_40 rfl fl_RX3_22 rfl (by decide) rfl rfl rfl ?_
      refine zV_goto (tgt := 8) dX3_step_43 rfl ?_
      exact ih (up2 I1 41 3 (nI (b + (i + 1)))) (tk_3 (x := (b + (i + 1))) h1) (fun j hj => by (by_cases e : j = i); (· subst e; exact decide_eq_true h30); (· exact hno j (by omega)))

set_option maxRecDepth 100000 in
theorem c_isNumber {G : mG} {I : Nat → Nat → Int32} {J : Nat → Nat → Int64} {t : Nat} {L : Nat} {k : aT} (h : tkC I k) (ho : okT L k) {x : Int32} : zC G yX3_isNumber (eX3_isNumber (g_rmv 0)) [.ref 41, .int x] (mm I J t) (fun r M => r = some (.int (b2 (k.1 = 2 ∧ nI k.2.2.2 ≤ x))) ∧ M = mm I J t) := by
  refine zC_of (by decide +kernel) rfl (by decide) (Nat.le_of_ble_eq_true rfl) ?_
  obtain ⟨o1, o2, o3, o4⟩ := ho
  show zV G (eX3_isNumber (g_rmv 0)) (0, 0) 0 [(0, .ref 41), (1, .int x)] [] (mm I J t) _
  refine zV_aload_n dX3_isNumber_0 rfl 0 rfl rfl ?_
  refine zV_getI (x := (nI k.1)) 2 dX3_isNumber_1 rfl fl_RX3_19 rfl (by decide) rfl h.1 ?_
  refine zV_iconst (v := (nI 2)) dX3_isNumber_4 rfl rfl ?_
  refine zN_icmp_ne (tgt := 20) dX3_isNumber_5 rfl rfl (by omega) (by omega) (fun h5 => ?_) (fun h5 => ?_)
  · refine zV_iconst (v := (nI 0)) dX3_isNumber_20 rfl rfl ?_
    exact zV_ireturn dX3_isNumber_21 rfl rfl (⟨z_b0 (fun z => h5 z.1), rfl⟩)
  · refine zV_aload_n dX3_isNumber_8 rfl 0 rfl rfl ?_
    refine zV_getI (x := (nI k.2.2.2)) 5 dX3_isNumber_9 rfl fl_RX3_28 rfl (by decide) rfl h.2.2.2 ?_
    refine zV_iload_n dX3_isNumber_12 rfl 1 rfl rfl ?_
    refine zV_icmp_gt (tgt := 20) dX3_isNumber_13 rfl rfl  (fun h13 => ?_) (fun h13 => ?_)
    · skip
      refine zV_iconst (v := (nI 0)) dX3_isNumber_20 rfl rfl ?_
      exact zV_ireturn dX3_isNumber_21 rfl rfl (⟨z_b0 (fun z => absurd z.2 (Int32.not_le.mpr h13)), rfl⟩)
    · skip
      refine zV_iconst (v := (nI 1)) dX3_isNumber_16 rfl rfl ?_
      refine zV_goto (tgt := 21) dX3_isNumber_17 rfl ?_
      exact zV_ireturn dX3_isNumber_21 rfl rfl (⟨z_b1 ⟨h5, Int32.not_lt.mp h13⟩, rfl⟩)

set_option maxRecDepth 100000 in
theorem c_isWord {G : mG} {I : Nat → Nat → Int32} {J : Nat → Nat → Int64} {L : Nat} {tp : Nat → Nat} {k : aT} (hr : rdC I tp L) (hk : tkC I k) (ho : okT L k) {t : Nat} (ht : t < 11) : zC G yX3_isWord (eX3_isWord (g_rmv 5)) [.ref 41, .ref (1000 + t)] (mm I J 40) (fun r M => r = some (.int (b2 (isW tp k t))) ∧ M = mm I J 40) := by
  refine zC_of (by decide +kernel) rfl (by decide) (Nat.le_of_ble_eq_true rfl) ?_
  obtain ⟨o1, o2, o3, o4⟩ := ho
  have hL := hr.2.1
  have l7 := g_len_7 t ht
  show zV G (eX3_isWord (g_rmv 5)) (0, 0) 0 [(0, .ref 41), (1, .ref (1000 + t))] [] (mm I J 40) _
  refine zV_aload_n dX3_isWord_0 rfl 0 rfl rfl ?_
  refine zV_getI (x := (nI k.1)) 2 dX3_isWord_1 rfl fl_RX3_19 rfl (by decide) rfl hk.1 ?_
  refine zV_iconst (v := (nI 1)) dX3_isWord_4 rfl rfl ?_
  refine zN_icmp_ne (tgt := 24) dX3_isWord_5 rfl rfl (by omega) (by omega) (fun h5 => ?_) (fun h5 => ?_)
  · refine zV_iconst (v := (nI 0)) dX3_isWord_24 rfl rfl ?_
    exact zV_ireturn dX3_isWord_25 rfl rfl (⟨z_b0 (fun z => h5 z.1), rfl⟩)
  · refine zV_aload_n dX3_isWord_8 rfl 0 rfl rfl ?_
    refine zV_getI (x := (nI k.2.2.1)) 4 dX3_isWord_9 rfl fl_RX3_25 rfl (by decide) rfl hk.2.2.1 ?_
    refine zV_aload_n dX3_isWord_12 rfl 0 rfl rfl ?_
    refine zV_getI (x := (nI k.2.1)) 3 dX3_isWord_13 rfl fl_RX3_22 rfl (by decide) rfl hk.2.1 ?_
    refine zA_isub (z := (nI (k.2.2.1 - k.2.1))) dX3_isWord_16 rfl  (pk_sub o2) ?_
    refine zV_aload_n dX3_isWord_17 rfl 1 rfl rfl ?_
    refine zV_callVs (E' := eJ0_length_8abf5 (g_rmv 1)) (av := []) (st := [.int (nI (k.2.2.1 - k.2.1))]) (t := t) ht dX3_isWord_18 rfl (k_RX3_96 _) rfl ⟨by decide, by decide⟩ ⟨by decide, by decide⟩ (Or.inl rfl) rfl (Nat.le_of_ble_eq_true rfl) rfl (c_strlen (t := t) ht) (fun r18 M18 z => ?_)
    obtain ⟨rfl, rfl⟩ := z
    show zV G (eX3_isWord (g_rmv 5)) (0, 0) 21 [(0, .ref 41), (1, .ref (1000 + t))] [.int (nI (g_len.getD t 0)), .int (nI (k.2.2.1 - k.2.1))] (mm I J 40) _
    refine zN_icmp_eq (tgt := 26) dX3_isWord_21 rfl rfl (by omega) (by omega) (fun h21 => ?_) (fun h21 => ?_)
    · skip
      refine zV_iconst (v := (nI 0)) dX3_isWord_26 rfl rfl ?_
      refine zV_istore_n (lv' := [(0, .ref 41), (1, .ref (1000 + t)), (2, .int (nI 0))]) dX3_isWord_27 rfl rfl (by decide) rfl ?_
      refine z_for (fun i => (∀ j, j < i → nI (tp (k.2.1 + j)) = (g_byt.getD t []).getD j 0) → zV G (eX3_isWord (g_rmv 5)) (0, 0) 28 [(0, .ref 41), (1, .ref (1000 + t)), (2, .int (nI i))] [] (mm I J 40) _) (g_len.getD t 0) ?_ ?_ 0 (Nat.zero_le _) (fun j h => absurd h (Nat.not_lt_zero _))
      · intro hno
        refine zV_iload_n dX3_isWord_28 rfl 2 rfl rfl ?_
        refine zV_aload_n dX3_isWord_29 rfl 1 rfl rfl ?_
        refine zV_callVs (E' := eJ0_length_8abf5 (g_rmv 1)) (av := []) (st := [.int (nI (g_len.getD t 0))]) (t := t) ht dX3_isWord_30 rfl (k_RX3_96 _) rfl ⟨by decide, by decide⟩ ⟨by decide, by decide⟩ (Or.inl rfl) rfl (Nat.le_of_ble_eq_true rfl) rfl (c_strlen (t := t) ht) (fun r30 M30 z => ?_)
        obtain ⟨rfl, rfl⟩ := z
        show zV G (eX3_isWord (g_rmv 5)) (0, 0) 33 [(0, .ref 41), (1, .ref (1000 + t)), (2, .int (nI (g_len.getD t 0)))] [.int (nI (g_len.getD t 0)), .int (nI (g_len.getD t 0))] (mm I J 40) _
        refine zN_icmp_ge (tgt := 63) dX3_isWord_33 rfl rfl (by omega) (by omega) (fun _ => ?_) (fun z => absurd z (by omega))
        refine zV_iconst (v := (nI 1)) dX3_isWord_63 rfl rfl ?_
        exact zV_ireturn dX3_isWord_64 rfl rfl (⟨z_b1 ⟨h5, h21, hno⟩, rfl⟩)
      · intro i hi ih hno
        refine zV_iload_n dX3_isWord_28 rfl 2 rfl rfl ?_
        refine zV_aload_n dX3_isWord_29 rfl 1 rfl rfl ?_
        refine zV_callVs (E' := eJ0_length_8abf5 (g_rmv 1)) (av := []) (st := [.int (nI i)]) (t := t) ht dX3_isWord_30 rfl (k_RX3_96 _) rfl ⟨by decide, by decide⟩ ⟨by decide, by decide⟩ (Or.inl rfl) rfl (Nat.le_of_ble_eq_true rfl) rfl (c_strlen (t := t) ht) (fun r30 M30 z => ?_)
        obtain ⟨rfl, rfl⟩ := z
        show zV G (eX3_isWord (g_rmv 5)) (0, 0) 33 [(0, .ref 41), (1, .ref (1000 + t)), (2, .int (nI i))] [.int (nI (g_len.getD t 0)), .int (nI i)] (mm I J 40) _
        refine zN_icmp_ge (tgt := 63) dX3_isWord_33 rfl rfl (by omega) (by omega) (fun z => absurd z (by omega)) (fun _ => ?_)
        refine zV_aload_n dX3_isWord_36 rfl 0 rfl rfl ?_
        refine zV_getr (q' := 40) 0 dX3_isWord_37 rfl fl_RX3_9 rfl (by decide) rfl rfl ?_
        refine zV_aload_n dX3_isWord_40 rfl 0 rfl rfl ?_
        refine zV_getI (x := (nI k.2.1)) 3 dX3_isWord_41 rfl fl_RX3_22 rfl (by decide) rfl hk.2.1 ?_
        refine zV_iload_n dX3_isWord_44 rfl 2 rfl rfl ?_
        refine zA_iadd (z := (nI (k.2.1 + i))) dX3_isWord_45 rfl  (nI_add _ _) ?_
        refine zV_iald (x := (nI (tp (k.2.1 + i)))) (k.2.1 + i) dX3_isWord_46 rfl rfl rfl (by omega) (by decide) (hr.2.2.1 (k.2.1 + i) (by omega)) ?_
        refine zV_aload_n dX3_isWord_47 rfl 1 rfl rfl ?_
        refine zV_iload_n dX3_isWord_48 rfl 2 rfl rfl ?_
        refine zV_callVs (E' := eJ0_charAt_5068e (g_rmv 4)) (av := [.int (nI i)]) (st := [.int (nI (tp (k.2.1 + i)))]) (t := t) ht dX3_isWord_49 rfl (k_RX3_101 _) rfl ⟨by decide, by decide⟩ ⟨by decide, by decide⟩ (Or.inl rfl) rfl (Nat.le_of_ble_eq_true rfl) rfl (c_charAt (t := t) (j := i) ht hi) (fun r49 M49 z => ?_)
        obtain ⟨rfl, rfl⟩ := z
        show zV G (eX3_isWord (g_rmv 5)) (0, 0) 52 [(0, .ref 41), (1, .ref (1000 + t)), (2, .int (nI i))] [.int ((g_byt.getD t []).getD i 0), .int (nI (tp (k.2.1 + i)))] (mm I J 40) _
        refine zV_icmp_eq (tgt := 57) dX3_isWord_52 rfl rfl  (fun h52 => ?_) (fun h52 => ?_)
        · refine zV_iinc (y := (nI (i + 1))) (lv' := [(0, .ref 41), (1, .ref (1000 + t)), (2, .int (nI (i + 1)))]) dX3_isWord_57 rfl 2 rfl (nI_1 _) (by decide) rfl ?_
          refine zV_goto (tgt := 28) dX3_isWord_60 rfl ?_
          exact ih (fun j hj => by (by_cases e : j = i); (· subst e; exact h52); (· exact hno j (by omega)))
        · refine zV_iconst (v := (nI 0)) dX3_isWord_55 rfl rfl ?_
          exact zV_ireturn dX3_isWord_56 rfl rfl (⟨z_b0 (fun z => h52 (z.2.2 i hi)), rfl⟩)
    · skip
      refine zV_iconst (v := (nI 0)) dX3_isWord_24 rfl rfl ?_
      exact zV_ireturn dX3_isWord_25 rfl rfl (⟨z_b0 (fun z => h21 z.2.1), rfl⟩)
