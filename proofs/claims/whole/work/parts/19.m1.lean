/-! THE REFERENCE: rows, coins, sums -/
set_option maxRecDepth 100000 in
theorem m_within {G : mG} {I : Nat → Nat → Int32} {J : Nat → Nat → Int64} {t : Nat} {x y z : Int32} : zC G yX7_within (eX7_within (g_rmv 0)) [.int x, .int y, .int z] (mm I J t) (fun r M => r = some (.int (b2 (y ≤ x ∧ x ≤ z))) ∧ M = mm I J t) := by
  refine zC_of (by decide +kernel) rfl (by decide) (Nat.le_of_ble_eq_true rfl) ?_
  show zV G (eX7_within (g_rmv 0)) (0, 0) 0 [(0, .int x), (1, .int y), (2, .int z)] [] (mm I J t) _
  refine zV_iload_n dX7_within_0 rfl 0 rfl rfl ?_
  refine zV_iload_n dX7_within_1 rfl 1 rfl rfl ?_
  refine zV_icmp_lt (tgt := 14) dX7_within_2 rfl rfl  (fun h2 => ?_) (fun h2 => ?_)
  · refine zV_iconst (v := (nI 0)) dX7_within_14 rfl rfl ?_
    exact zV_ireturn dX7_within_15 rfl rfl (⟨z_b0 (by have z0 : (0 : Int32).toInt = 0 := rfl; simp only [Int32.lt_iff_toInt_lt, Int32.le_iff_toInt_le, z0] at h2 ⊢; omega), rfl⟩)
  · refine zV_iload_n dX7_within_5 rfl 0 rfl rfl ?_
    refine zV_iload_n dX7_within_6 rfl 2 rfl rfl ?_
    refine zV_icmp_gt (tgt := 14) dX7_within_7 rfl rfl  (fun h7 => ?_) (fun h7 => ?_)
    · refine zV_iconst (v := (nI 0)) dX7_within_14 rfl rfl ?_
      exact zV_ireturn dX7_within_15 rfl rfl (⟨z_b0 (by have z0 : (0 : Int32).toInt = 0 := rfl; simp only [Int32.lt_iff_toInt_lt, Int32.le_iff_toInt_le, z0] at h2 h7 ⊢; omega), rfl⟩)
    · refine zV_iconst (v := (nI 1)) dX7_within_10 rfl rfl ?_
      refine zV_goto (tgt := 15) dX7_within_11 rfl ?_
      exact zV_ireturn dX7_within_15 rfl rfl (⟨z_b1 (by have z0 : (0 : Int32).toInt = 0 := rfl; simp only [Int32.lt_iff_toInt_lt, Int32.le_iff_toInt_le, z0] at h2 h7 ⊢; omega), rfl⟩)

set_option maxRecDepth 100000 in
theorem m_isPurse {G : mG} {I : Nat → Nat → Int32} {J : Nat → Nat → Int64} {t : Nat} {x : Int32} : zC G yX7_isPurse (eX7_isPurse (g_rmv 1)) [.int x] (mm I J t) (fun r M => r = some (.int (b2 (inR x 3))) ∧ M = mm I J t) := by
  refine zC_of (by decide +kernel) rfl (by decide) (Nat.le_of_ble_eq_true rfl) ?_
  show zV G (eX7_isPurse (g_rmv 1)) (0, 0) 0 [(0, .int x)] [] (mm I J t) _
  refine zV_iload_n dX7_isPurse_0 rfl 0 rfl rfl ?_
  refine zV_iconst (v := (nI 0)) dX7_isPurse_1 rfl rfl ?_
  refine zV_iconst (v := (nI 3)) dX7_isPurse_2 rfl rfl ?_
  refine zV_callS (E' := eX7_within (g_rmv 0)) (av := [.int x, .int (nI 0), .int (nI 3)]) (st := []) dX7_isPurse_3 rfl (k_RX7_72 _) rfl ⟨by decide, by decide⟩ ⟨by decide, by decide⟩ (Or.inl rfl) rfl (Nat.le_of_ble_eq_true rfl) (m_within (x := x) (y := (nI 0)) (z := (nI 3))) (fun r3 M3 z => ?_)
  obtain ⟨rfl, rfl⟩ := z
  show zV G (eX7_isPurse (g_rmv 1)) (0, 0) 6 [(0, .int x)] [.int (b2 ((nI 0) ≤ x ∧ x ≤ (nI 3)))] (mm I J t) _
  exact zV_ireturn dX7_isPurse_6 rfl (b2_n _) (⟨rfl, rfl⟩)

set_option maxRecDepth 100000 in
theorem m_isSheet {G : mG} {I : Nat → Nat → Int32} {J : Nat → Nat → Int64} {t : Nat} {x : Int32} : zC G yX7_isSheet (eX7_isSheet (g_rmv 1)) [.int x] (mm I J t) (fun r M => r = some (.int (b2 (inR x 3))) ∧ M = mm I J t) := by
  refine zC_of (by decide +kernel) rfl (by decide) (Nat.le_of_ble_eq_true rfl) ?_
  show zV G (eX7_isSheet (g_rmv 1)) (0, 0) 0 [(0, .int x)] [] (mm I J t) _
  refine zV_iload_n dX7_isSheet_0 rfl 0 rfl rfl ?_
  refine zV_iconst (v := (nI 0)) dX7_isSheet_1 rfl rfl ?_
  refine zV_iconst (v := (nI 3)) dX7_isSheet_2 rfl rfl ?_
  refine zV_callS (E' := eX7_within (g_rmv 0)) (av := [.int x, .int (nI 0), .int (nI 3)]) (st := []) dX7_isSheet_3 rfl (k_RX7_72 _) rfl ⟨by decide, by decide⟩ ⟨by decide, by decide⟩ (Or.inl rfl) rfl (Nat.le_of_ble_eq_true rfl) (m_within (x := x) (y := (nI 0)) (z := (nI 3))) (fun r3 M3 z => ?_)
  obtain ⟨rfl, rfl⟩ := z
  show zV G (eX7_isSheet (g_rmv 1)) (0, 0) 6 [(0, .int x)] [.int (b2 ((nI 0) ≤ x ∧ x ≤ (nI 3)))] (mm I J t) _
  exact zV_ireturn dX7_isSheet_6 rfl (b2_n _) (⟨rfl, rfl⟩)

set_option maxRecDepth 100000 in
theorem m_isKind {G : mG} {I : Nat → Nat → Int32} {J : Nat → Nat → Int64} {t : Nat} {x : Int32} : zC G yX7_isKind (eX7_isKind (g_rmv 1)) [.int x] (mm I J t) (fun r M => r = some (.int (b2 (inR x 6))) ∧ M = mm I J t) := by
  refine zC_of (by decide +kernel) rfl (by decide) (Nat.le_of_ble_eq_true rfl) ?_
  show zV G (eX7_isKind (g_rmv 1)) (0, 0) 0 [(0, .int x)] [] (mm I J t) _
  refine zV_iload_n dX7_isKind_0 rfl 0 rfl rfl ?_
  refine zV_iconst (v := (nI 0)) dX7_isKind_1 rfl rfl ?_
  refine zV_bipush (v := (nI 6)) dX7_isKind_2 rfl rfl ?_
  refine zV_callS (E' := eX7_within (g_rmv 0)) (av := [.int x, .int (nI 0), .int (nI 6)]) (st := []) dX7_isKind_4 rfl (k_RX7_72 _) rfl ⟨by decide, by decide⟩ ⟨by decide, by decide⟩ (Or.inl rfl) rfl (Nat.le_of_ble_eq_true rfl) (m_within (x := x) (y := (nI 0)) (z := (nI 6))) (fun r4 M4 z => ?_)
  obtain ⟨rfl, rfl⟩ := z
  show zV G (eX7_isKind (g_rmv 1)) (0, 0) 7 [(0, .int x)] [.int (b2 ((nI 0) ≤ x ∧ x ≤ (nI 6)))] (mm I J t) _
  exact zV_ireturn dX7_isKind_7 rfl (b2_n _) (⟨rfl, rfl⟩)

set_option maxRecDepth 100000 in
theorem m_isSum {G : mG} {I : Nat → Nat → Int32} {J : Nat → Nat → Int64} {t : Nat} {x : Int32} : zC G yX7_isSum (eX7_isSum (g_rmv 1)) [.int x] (mm I J t) (fun r M => r = some (.int (b2 (inR x 999))) ∧ M = mm I J t) := by
  refine zC_of (by decide +kernel) rfl (by decide) (Nat.le_of_ble_eq_true rfl) ?_
  show zV G (eX7_isSum (g_rmv 1)) (0, 0) 0 [(0, .int x)] [] (mm I J t) _
  refine zV_iload_n dX7_isSum_0 rfl 0 rfl rfl ?_
  refine zV_iconst (v := (nI 0)) dX7_isSum_1 rfl rfl ?_
  refine zV_sipush (v := (nI 999)) dX7_isSum_2 rfl rfl ?_
  refine zV_callS (E' := eX7_within (g_rmv 0)) (av := [.int x, .int (nI 0), .int (nI 999)]) (st := []) dX7_isSum_5 rfl (k_RX7_72 _) rfl ⟨by decide, by decide⟩ ⟨by decide, by decide⟩ (Or.inl rfl) rfl (Nat.le_of_ble_eq_true rfl) (m_within (x := x) (y := (nI 0)) (z := (nI 999))) (fun r5 M5 z => ?_)
  obtain ⟨rfl, rfl⟩ := z
  show zV G (eX7_isSum (g_rmv 1)) (0, 0) 8 [(0, .int x)] [.int (b2 ((nI 0) ≤ x ∧ x ≤ (nI 999)))] (mm I J t) _
  exact zV_ireturn dX7_isSum_8 rfl (b2_n _) (⟨rfl, rfl⟩)

set_option maxRecDepth 100000 in
theorem m_isSpot {G : mG} {I : Nat → Nat → Int32} {J : Nat → Nat → Int64} {t : Nat} {x : Int32} : zC G yX7_isSpot (eX7_isSpot (g_rmv 1)) [.int x] (mm I J t) (fun r M => r = some (.int (b2 (inR x 9))) ∧ M = mm I J t) := by
  refine zC_of (by decide +kernel) rfl (by decide) (Nat.le_of_ble_eq_true rfl) ?_
  show zV G (eX7_isSpot (g_rmv 1)) (0, 0) 0 [(0, .int x)] [] (mm I J t) _
  refine zV_iload_n dX7_isSpot_0 rfl 0 rfl rfl ?_
  refine zV_iconst (v := (nI 0)) dX7_isSpot_1 rfl rfl ?_
  refine zV_bipush (v := (nI 9)) dX7_isSpot_2 rfl rfl ?_
  refine zV_callS (E' := eX7_within (g_rmv 0)) (av := [.int x, .int (nI 0), .int (nI 9)]) (st := []) dX7_isSpot_4 rfl (k_RX7_72 _) rfl ⟨by decide, by decide⟩ ⟨by decide, by decide⟩ (Or.inl rfl) rfl (Nat.le_of_ble_eq_true rfl) (m_within (x := x) (y := (nI 0)) (z := (nI 9))) (fun r4 M4 z => ?_)
  obtain ⟨rfl, rfl⟩ := z
  show zV G (eX7_isSpot (g_rmv 1)) (0, 0) 7 [(0, .int x)] [.int (b2 ((nI 0) ≤ x ∧ x ≤ (nI 9)))] (mm I J t) _
  exact zV_ireturn dX7_isSpot_7 rfl (b2_n _) (⟨rfl, rfl⟩)

set_option maxRecDepth 100000 in
theorem m_two {G : mG} {I : Nat → Nat → Int32} {J : Nat → Nat → Int64} {t : Nat} {x y : Int32} : zC G yX7_areTwo (eX7_areTwo (g_rmv 2)) [.int x, .int y] (mm I J t) (fun r M => r = some (.int (b2 (twoP x y))) ∧ M = mm I J t) := by
  refine zC_of (by decide +kernel) rfl (by decide) (Nat.le_of_ble_eq_true rfl) ?_
  show zV G (eX7_areTwo (g_rmv 2)) (0, 0) 0 [(0, .int x), (1, .int y)] [] (mm I J t) _
  refine zV_iload_n dX7_areTwo_0 rfl 0 rfl rfl ?_
  refine zV_callS (E' := eX7_isPurse (g_rmv 1)) (av := [.int x]) (st := []) dX7_areTwo_1 rfl (k_RX7_76 _) rfl ⟨by decide, by decide⟩ ⟨by decide, by decide⟩ (Or.inl rfl) rfl (Nat.le_of_ble_eq_true rfl) (m_isPurse (x := x)) (fun r1 M1 z => ?_)
  obtain ⟨rfl, rfl⟩ := z
  show zV G (eX7_areTwo (g_rmv 2)) (0, 0) 4 [(0, .int x), (1, .int y)] [.int (b2 (inR x 3))] (mm I J t) _
  refine zB_if_eq (tgt := 23) dX7_areTwo_4 rfl rfl  (fun h4 => ?_) (fun h4 => ?_)
  · refine zV_iconst (v := (nI 0)) dX7_areTwo_23 rfl rfl ?_
    exact zV_ireturn dX7_areTwo_24 rfl rfl (⟨z_b0 (fun q => h4 q.1), rfl⟩)
  · refine zV_iload_n dX7_areTwo_7 rfl 1 rfl rfl ?_
    refine zV_callS (E' := eX7_isPurse (g_rmv 1)) (av := [.int y]) (st := []) dX7_areTwo_8 rfl (k_RX7_76 _) rfl ⟨by decide, by decide⟩ ⟨by decide, by decide⟩ (Or.inl rfl) rfl (Nat.le_of_ble_eq_true rfl) (m_isPurse (x := y)) (fun r8 M8 z => ?_)
    obtain ⟨rfl, rfl⟩ := z
    show zV G (eX7_areTwo (g_rmv 2)) (0, 0) 11 [(0, .int x), (1, .int y)] [.int (b2 (inR y 3))] (mm I J t) _
    refine zB_if_eq (tgt := 23) dX7_areTwo_11 rfl rfl  (fun h11 => ?_) (fun h11 => ?_)
    · refine zV_iconst (v := (nI 0)) dX7_areTwo_23 rfl rfl ?_
      exact zV_ireturn dX7_areTwo_24 rfl rfl (⟨z_b0 (fun q => h11 q.2.1), rfl⟩)
    · refine zV_iload_n dX7_areTwo_14 rfl 0 rfl rfl ?_
      refine zV_iload_n dX7_areTwo_15 rfl 1 rfl rfl ?_
      refine zV_icmp_eq (tgt := 23) dX7_areTwo_16 rfl rfl  (fun h16 => ?_) (fun h16 => ?_)
      · refine zV_iconst (v := (nI 0)) dX7_areTwo_23 rfl rfl ?_
        exact zV_ireturn dX7_areTwo_24 rfl rfl (⟨z_b0 (fun q => q.2.2 h16), rfl⟩)
      · refine zV_iconst (v := (nI 1)) dX7_areTwo_19 rfl rfl ?_
        refine zV_goto (tgt := 24) dX7_areTwo_20 rfl ?_
        exact zV_ireturn dX7_areTwo_24 rfl rfl (⟨z_b1 ⟨h4, h11, h16⟩, rfl⟩)

theorem z_hasM {n : Nat} {x : Int32} (hn : n ≤ 10) : (nI 0 ≤ x ∧ x ≤ nI n - nI 1) ↔ hasC n x := by
  have e : (nI n - nI 1).toInt = (n : Int) - 1 := pk_sub_toInt (by omega) (by decide)
  have e0 : (0 : Int32).toInt = 0 := rfl
  show (0 ≤ x ∧ x ≤ nI n - nI 1) ↔ (0 ≤ x ∧ x < nI n)
  rw [Int32.le_iff_toInt_le, Int32.le_iff_toInt_le, Int32.lt_iff_toInt_lt, e, nI_toInt (by omega), e0]
  omega
set_option maxRecDepth 100000 in
theorem m_isCoin {G : mG} {I : Nat → Nat → Int32} {J : Nat → Nat → Int64} {t : Nat} {B : Nat} {σ : aL} (hR : absR I 77 σ) (hW : wfL B σ) {x : Int32} : zC G yX7_isCoin (eX7_isCoin (g_rmv 1)) [.ref 76, .int x] (mm I J t) (fun r M => r = some (.int (b2 (hasC σ.1 x))) ∧ M = mm I J t) := by
  refine zC_of (by decide +kernel) rfl (by decide) (Nat.le_of_ble_eq_true rfl) ?_
  have n10 := hW.1
  show zV G (eX7_isCoin (g_rmv 1)) (0, 0) 0 [(0, .ref 76), (1, .int x)] [] (mm I J t) _
  refine zV_iload_n dX7_isCoin_0 rfl 1 rfl rfl ?_
  refine zV_iconst (v := (nI 0)) dX7_isCoin_1 rfl rfl ?_
  refine zV_aload_n dX7_isCoin_2 rfl 0 rfl rfl ?_
  refine zV_getr (q' := 77) 0 dX7_isCoin_3 rfl fl_RX7_9 rfl (by decide) rfl rfl ?_
  refine zV_iconst (v := (nI 1)) dX7_isCoin_6 rfl rfl ?_
  refine zV_iald (x := (nI σ.1)) 1 dX7_isCoin_7 rfl rfl rfl (by decide) (by decide) hR.2.1 ?_
  refine zV_iconst (v := (nI 1)) dX7_isCoin_8 rfl rfl ?_
  refine zA_isub (z := ((nI σ.1) - (nI 1))) dX7_isCoin_9 rfl  (rfl) ?_
  refine zV_callS (E' := eX7_within (g_rmv 0)) (av := [.int x, .int (nI 0), .int ((nI σ.1) - (nI 1))]) (st := []) dX7_isCoin_10 rfl (k_RX7_72 _) rfl ⟨by decide, by decide⟩ ⟨by decide, by decide⟩ (Or.inl rfl) rfl (Nat.le_of_ble_eq_true rfl) (m_within (x := x) (y := (nI 0)) (z := ((nI σ.1) - (nI 1)))) (fun r10 M10 z => ?_)
  obtain ⟨rfl, rfl⟩ := z
  show zV G (eX7_isCoin (g_rmv 1)) (0, 0) 13 [(0, .ref 76), (1, .int x)] [.int (b2 ((nI 0) ≤ x ∧ x ≤ ((nI σ.1) - (nI 1))))] (mm I J t) _
  exact zV_ireturn dX7_isCoin_13 rfl (b2_n _) (⟨congrArg (fun x => some (Value.int x)) (b2_congr (z_hasM n10)), rfl⟩)

set_option maxRecDepth 100000 in
theorem m_isSet {G : mG} {I : Nat → Nat → Int32} {J : Nat → Nat → Int64} {t : Nat} {B : Nat} {σ : aL} (hR : absR I 77 σ) (hW : wfL B σ) {x : Int32} : zC G yX7_isSet (eX7_isSet (g_rmv 1)) [.ref 76, .int x] (mm I J t) (fun r M => r = some (.int (b2 (isSet σ.1 x))) ∧ M = mm I J t) := by
  refine zC_of (by decide +kernel) rfl (by decide) (Nat.le_of_ble_eq_true rfl) ?_
  have n10 := hW.1
  show zV G (eX7_isSet (g_rmv 1)) (0, 0) 0 [(0, .ref 76), (1, .int x)] [] (mm I J t) _
  refine zV_iload_n dX7_isSet_0 rfl 1 rfl rfl ?_
  refine zV_iconst (v := (nI 0)) dX7_isSet_1 rfl rfl ?_
  refine zV_iconst (v := (nI 1)) dX7_isSet_2 rfl rfl ?_
  refine zV_aload_n dX7_isSet_3 rfl 0 rfl rfl ?_
  refine zV_getr (q' := 77) 0 dX7_isSet_4 rfl fl_RX7_9 rfl (by decide) rfl rfl ?_
  refine zV_iconst (v := (nI 1)) dX7_isSet_7 rfl rfl ?_
  refine zV_iald (x := (nI σ.1)) 1 dX7_isSet_8 rfl rfl rfl (by decide) (by decide) hR.2.1 ?_
  refine zA_ishl (z := (nI (2 ^ σ.1))) dX7_isSet_9 rfl  (z_shl1 (by omega)) ?_
  refine zV_iconst (v := (nI 1)) dX7_isSet_10 rfl rfl ?_
  refine zA_isub (z := (nI (2 ^ σ.1 - 1))) dX7_isSet_11 rfl  (pk_sub Nat.one_le_two_pow) ?_
  refine zV_callS (E' := eX7_within (g_rmv 0)) (av := [.int x, .int (nI 0), .int (nI (2 ^ σ.1 - 1))]) (st := []) dX7_isSet_12 rfl (k_RX7_72 _) rfl ⟨by decide, by decide⟩ ⟨by decide, by decide⟩ (Or.inl rfl) rfl (Nat.le_of_ble_eq_true rfl) (m_within (x := x) (y := (nI 0)) (z := (nI (2 ^ σ.1 - 1)))) (fun r12 M12 z => ?_)
  obtain ⟨rfl, rfl⟩ := z
  show zV G (eX7_isSet (g_rmv 1)) (0, 0) 15 [(0, .ref 76), (1, .int x)] [.int (b2 ((nI 0) ≤ x ∧ x ≤ (nI (2 ^ σ.1 - 1))))] (mm I J t) _
  exact zV_ireturn dX7_isSet_15 rfl (b2_n _) (⟨rfl, rfl⟩)

set_option maxRecDepth 100000 in
theorem m_at {G : mG} {I : Nat → Nat → Int32} {J : Nat → Nat → Int64} {t : Nat} {c f : Nat} : zC G yX7_at (eX7_at (g_rmv 0)) [.int (nI c), .int (nI f)] (mm I J t) (fun r M => r = some (.int (nI (13 + 6 * c + f))) ∧ M = mm I J t) := by
  refine zC_of (by decide +kernel) rfl (by decide) (Nat.le_of_ble_eq_true rfl) ?_
  show zV G (eX7_at (g_rmv 0)) (0, 0) 0 [(0, .int (nI c)), (1, .int (nI f))] [] (mm I J t) _
  refine zV_bipush (v := (nI 13)) dX7_at_0 rfl rfl ?_
  refine zV_bipush (v := (nI 6)) dX7_at_2 rfl rfl ?_
  refine zV_iload_n dX7_at_4 rfl 0 rfl rfl ?_
  refine zA_imul (z := (nI (6 * c))) dX7_at_5 rfl  (pk_mul _ _) ?_
  refine zA_iadd (z := (nI (13 + (6 * c)))) dX7_at_6 rfl  (nI_add _ _) ?_
  refine zV_iload_n dX7_at_7 rfl 1 rfl rfl ?_
  refine zA_iadd (z := (nI ((13 + (6 * c)) + f))) dX7_at_8 rfl  (nI_add _ _) ?_
  exact zV_ireturn dX7_at_9 rfl rfl (⟨rfl, rfl⟩)

set_option maxRecDepth 100000 in
theorem m_coinIs {G : mG} {I : Nat → Nat → Int32} {J : Nat → Nat → Int64} {t : Nat} {B : Nat} {σ : aL} (hR : absR I 77 σ) (hW : wfL B σ) {c f : Nat} (hc : c < σ.1) (hf : f < 6) : zC G yX7_coinIs (eX7_coinIs (g_rmv 1)) [.ref 76, .int (nI c), .int (nI f)] (mm I J t) (fun r M => r = some (.int (nI (σ.2.1 c f))) ∧ M = mm I J t) := by
  refine zC_of (by decide +kernel) rfl (by decide) (Nat.le_of_ble_eq_true rfl) ?_
  have n10 := hW.1
  show zV G (eX7_coinIs (g_rmv 1)) (0, 0) 0 [(0, .ref 76), (1, .int (nI c)), (2, .int (nI f))] [] (mm I J t) _
  refine zV_aload_n dX7_coinIs_0 rfl 0 rfl rfl ?_
  refine zV_getr (q' := 77) 0 dX7_coinIs_1 rfl fl_RX7_9 rfl (by decide) rfl rfl ?_
  refine zV_iload_n dX7_coinIs_4 rfl 1 rfl rfl ?_
  refine zV_iload_n dX7_coinIs_5 rfl 2 rfl rfl ?_
  refine zV_callS (E' := eX7_at (g_rmv 0)) (av := [.int (nI c), .int (nI f)]) (st := [.ref 77]) dX7_coinIs_6 rfl (k_RX7_80 _) rfl ⟨by decide, by decide⟩ ⟨by decide, by decide⟩ (Or.inl rfl) rfl (Nat.le_of_ble_eq_true rfl) (m_at (c := c) (f := f)) (fun r6 M6 z => ?_)
  obtain ⟨rfl, rfl⟩ := z
  show zV G (eX7_coinIs (g_rmv 1)) (0, 0) 9 [(0, .ref 76), (1, .int (nI c)), (2, .int (nI f))] [.int (nI (13 + 6 * c + f)), .ref 77] (mm I J t) _
  refine zV_iald (x := (nI (σ.2.1 c f))) (13 + 6 * c + f) dX7_coinIs_9 rfl rfl rfl (by omega) (by decide) (hR.2.2.2.2 c hc f hf) ?_
  exact zV_ireturn dX7_coinIs_10 rfl rfl (⟨rfl, rfl⟩)

set_option maxRecDepth 100000 in
theorem m_above0 {G : mG} {I : Nat → Nat → Int32} {J : Nat → Nat → Int64} {t : Nat}  : zC G yX7_above (eX7_above (g_rmv 0)) [.int (nI 0)] (mm I J t) (fun r M => r = some (.int (-1)) ∧ M = mm I J t) := by
  refine zC_of (by decide +kernel) rfl (by decide) (Nat.le_of_ble_eq_true rfl) ?_
  show zV G (eX7_above (g_rmv 0)) (0, 0) 0 [(0, .int (nI 0))] [] (mm I J t) _
  refine zV_iload_n dX7_above_0 rfl 0 rfl rfl ?_
  refine zN_if_ne (tgt := 8) dX7_above_1 rfl rfl (by decide) (fun z => absurd z (by decide)) (fun _ => ?_)
  refine zV_iconst (v := (-1)) dX7_above_4 rfl rfl ?_
  refine zV_goto (tgt := 37) dX7_above_5 rfl ?_
  exact zV_ireturn dX7_above_37 rfl rfl (⟨rfl, rfl⟩)

set_option maxRecDepth 100000 in
theorem m_above1 {G : mG} {I : Nat → Nat → Int32} {J : Nat → Nat → Int64} {t : Nat}  : zC G yX7_above (eX7_above (g_rmv 0)) [.int (nI 1)] (mm I J t) (fun r M => r = some (.int (nI 0)) ∧ M = mm I J t) := by
  refine zC_of (by decide +kernel) rfl (by decide) (Nat.le_of_ble_eq_true rfl) ?_
  show zV G (eX7_above (g_rmv 0)) (0, 0) 0 [(0, .int (nI 1))] [] (mm I J t) _
  refine zV_iload_n dX7_above_0 rfl 0 rfl rfl ?_
  refine zN_if_ne (tgt := 8) dX7_above_1 rfl rfl (by decide) (fun _ => ?_) (fun z => absurd z (by decide))
  refine zV_iload_n dX7_above_8 rfl 0 rfl rfl ?_
  refine zV_iconst (v := (nI 3)) dX7_above_9 rfl rfl ?_
  refine zN_icmp_ne (tgt := 17) dX7_above_10 rfl rfl (by decide) (by decide) (fun _ => ?_) (fun z => absurd z (by decide))
  refine zV_iload_n dX7_above_17 rfl 0 rfl rfl ?_
  refine zV_iconst (v := (nI 4)) dX7_above_18 rfl rfl ?_
  refine zN_icmp_ne (tgt := 26) dX7_above_19 rfl rfl (by decide) (by decide) (fun _ => ?_) (fun z => absurd z (by decide))
  refine zV_iload_n dX7_above_26 rfl 0 rfl rfl ?_
  refine zV_bipush (v := (nI 6)) dX7_above_27 rfl rfl ?_
  refine zN_icmp_ne (tgt := 36) dX7_above_29 rfl rfl (by decide) (by decide) (fun _ => ?_) (fun z => absurd z (by decide))
  refine zV_iconst (v := (nI 0)) dX7_above_36 rfl rfl ?_
  exact zV_ireturn dX7_above_37 rfl rfl (⟨rfl, rfl⟩)

set_option maxRecDepth 100000 in
theorem m_above2 {G : mG} {I : Nat → Nat → Int32} {J : Nat → Nat → Int64} {t : Nat}  : zC G yX7_above (eX7_above (g_rmv 0)) [.int (nI 2)] (mm I J t) (fun r M => r = some (.int (nI 0)) ∧ M = mm I J t) := by
  refine zC_of (by decide +kernel) rfl (by decide) (Nat.le_of_ble_eq_true rfl) ?_
  show zV G (eX7_above (g_rmv 0)) (0, 0) 0 [(0, .int (nI 2))] [] (mm I J t) _
  refine zV_iload_n dX7_above_0 rfl 0 rfl rfl ?_
  refine zN_if_ne (tgt := 8) dX7_above_1 rfl rfl (by decide) (fun _ => ?_) (fun z => absurd z (by decide))
  refine zV_iload_n dX7_above_8 rfl 0 rfl rfl ?_
  refine zV_iconst (v := (nI 3)) dX7_above_9 rfl rfl ?_
  refine zN_icmp_ne (tgt := 17) dX7_above_10 rfl rfl (by decide) (by decide) (fun _ => ?_) (fun z => absurd z (by decide))
  refine zV_iload_n dX7_above_17 rfl 0 rfl rfl ?_
  refine zV_iconst (v := (nI 4)) dX7_above_18 rfl rfl ?_
  refine zN_icmp_ne (tgt := 26) dX7_above_19 rfl rfl (by decide) (by decide) (fun _ => ?_) (fun z => absurd z (by decide))
  refine zV_iload_n dX7_above_26 rfl 0 rfl rfl ?_
  refine zV_bipush (v := (nI 6)) dX7_above_27 rfl rfl ?_
  refine zN_icmp_ne (tgt := 36) dX7_above_29 rfl rfl (by decide) (by decide) (fun _ => ?_) (fun z => absurd z (by decide))
  refine zV_iconst (v := (nI 0)) dX7_above_36 rfl rfl ?_
  exact zV_ireturn dX7_above_37 rfl rfl (⟨rfl, rfl⟩)

set_option maxRecDepth 100000 in
theorem m_above3 {G : mG} {I : Nat → Nat → Int32} {J : Nat → Nat → Int64} {t : Nat}  : zC G yX7_above (eX7_above (g_rmv 0)) [.int (nI 3)] (mm I J t) (fun r M => r = some (.int (nI 2)) ∧ M = mm I J t) := by
  refine zC_of (by decide +kernel) rfl (by decide) (Nat.le_of_ble_eq_true rfl) ?_
  show zV G (eX7_above (g_rmv 0)) (0, 0) 0 [(0, .int (nI 3))] [] (mm I J t) _
  refine zV_iload_n dX7_above_0 rfl 0 rfl rfl ?_
  refine zN_if_ne (tgt := 8) dX7_above_1 rfl rfl (by decide) (fun _ => ?_) (fun z => absurd z (by decide))
  refine zV_iload_n dX7_above_8 rfl 0 rfl rfl ?_
  refine zV_iconst (v := (nI 3)) dX7_above_9 rfl rfl ?_
  refine zN_icmp_ne (tgt := 17) dX7_above_10 rfl rfl (by decide) (by decide) (fun z => absurd z (by decide)) (fun _ => ?_)
  refine zV_iconst (v := (nI 2)) dX7_above_13 rfl rfl ?_
  refine zV_goto (tgt := 37) dX7_above_14 rfl ?_
  exact zV_ireturn dX7_above_37 rfl rfl (⟨rfl, rfl⟩)

set_option maxRecDepth 100000 in
theorem m_above4 {G : mG} {I : Nat → Nat → Int32} {J : Nat → Nat → Int64} {t : Nat}  : zC G yX7_above (eX7_above (g_rmv 0)) [.int (nI 4)] (mm I J t) (fun r M => r = some (.int (nI 1)) ∧ M = mm I J t) := by
  refine zC_of (by decide +kernel) rfl (by decide) (Nat.le_of_ble_eq_true rfl) ?_
  show zV G (eX7_above (g_rmv 0)) (0, 0) 0 [(0, .int (nI 4))] [] (mm I J t) _
  refine zV_iload_n dX7_above_0 rfl 0 rfl rfl ?_
  refine zN_if_ne (tgt := 8) dX7_above_1 rfl rfl (by decide) (fun _ => ?_) (fun z => absurd z (by decide))
  refine zV_iload_n dX7_above_8 rfl 0 rfl rfl ?_
  refine zV_iconst (v := (nI 3)) dX7_above_9 rfl rfl ?_
  refine zN_icmp_ne (tgt := 17) dX7_above_10 rfl rfl (by decide) (by decide) (fun _ => ?_) (fun z => absurd z (by decide))
  refine zV_iload_n dX7_above_17 rfl 0 rfl rfl ?_
  refine zV_iconst (v := (nI 4)) dX7_above_18 rfl rfl ?_
  refine zN_icmp_ne (tgt := 26) dX7_above_19 rfl rfl (by decide) (by decide) (fun z => absurd z (by decide)) (fun _ => ?_)
  refine zV_iconst (v := (nI 1)) dX7_above_22 rfl rfl ?_
  refine zV_goto (tgt := 37) dX7_above_23 rfl ?_
  exact zV_ireturn dX7_above_37 rfl rfl (⟨rfl, rfl⟩)

set_option maxRecDepth 100000 in
theorem m_above5 {G : mG} {I : Nat → Nat → Int32} {J : Nat → Nat → Int64} {t : Nat}  : zC G yX7_above (eX7_above (g_rmv 0)) [.int (nI 5)] (mm I J t) (fun r M => r = some (.int (nI 0)) ∧ M = mm I J t) := by
  refine zC_of (by decide +kernel) rfl (by decide) (Nat.le_of_ble_eq_true rfl) ?_
  show zV G (eX7_above (g_rmv 0)) (0, 0) 0 [(0, .int (nI 5))] [] (mm I J t) _
  refine zV_iload_n dX7_above_0 rfl 0 rfl rfl ?_
  refine zN_if_ne (tgt := 8) dX7_above_1 rfl rfl (by decide) (fun _ => ?_) (fun z => absurd z (by decide))
  refine zV_iload_n dX7_above_8 rfl 0 rfl rfl ?_
  refine zV_iconst (v := (nI 3)) dX7_above_9 rfl rfl ?_
  refine zN_icmp_ne (tgt := 17) dX7_above_10 rfl rfl (by decide) (by decide) (fun _ => ?_) (fun z => absurd z (by decide))
  refine zV_iload_n dX7_above_17 rfl 0 rfl rfl ?_
  refine zV_iconst (v := (nI 4)) dX7_above_18 rfl rfl ?_
  refine zN_icmp_ne (tgt := 26) dX7_above_19 rfl rfl (by decide) (by decide) (fun _ => ?_) (fun z => absurd z (by decide))
  refine zV_iload_n dX7_above_26 rfl 0 rfl rfl ?_
  refine zV_bipush (v := (nI 6)) dX7_above_27 rfl rfl ?_
  refine zN_icmp_ne (tgt := 36) dX7_above_29 rfl rfl (by decide) (by decide) (fun _ => ?_) (fun z => absurd z (by decide))
  refine zV_iconst (v := (nI 0)) dX7_above_36 rfl rfl ?_
  exact zV_ireturn dX7_above_37 rfl rfl (⟨rfl, rfl⟩)

set_option maxRecDepth 100000 in
theorem m_above6 {G : mG} {I : Nat → Nat → Int32} {J : Nat → Nat → Int64} {t : Nat}  : zC G yX7_above (eX7_above (g_rmv 0)) [.int (nI 6)] (mm I J t) (fun r M => r = some (.int (nI 5)) ∧ M = mm I J t) := by
  refine zC_of (by decide +kernel) rfl (by decide) (Nat.le_of_ble_eq_true rfl) ?_
  show zV G (eX7_above (g_rmv 0)) (0, 0) 0 [(0, .int (nI 6))] [] (mm I J t) _
  refine zV_iload_n dX7_above_0 rfl 0 rfl rfl ?_
  refine zN_if_ne (tgt := 8) dX7_above_1 rfl rfl (by decide) (fun _ => ?_) (fun z => absurd z (by decide))
  refine zV_iload_n dX7_above_8 rfl 0 rfl rfl ?_
  refine zV_iconst (v := (nI 3)) dX7_above_9 rfl rfl ?_
  refine zN_icmp_ne (tgt := 17) dX7_above_10 rfl rfl (by decide) (by decide) (fun _ => ?_) (fun z => absurd z (by decide))
  refine zV_iload_n dX7_above_17 rfl 0 rfl rfl ?_
  refine zV_iconst (v := (nI 4)) dX7_above_18 rfl rfl ?_
  refine zN_icmp_ne (tgt := 26) dX7_above_19 rfl rfl (by decide) (by decide) (fun _ => ?_) (fun z => absurd z (by decide))
  refine zV_iload_n dX7_above_26 rfl 0 rfl rfl ?_
  refine zV_bipush (v := (nI 6)) dX7_above_27 rfl rfl ?_
  refine zN_icmp_ne (tgt := 36) dX7_above_29 rfl rfl (by decide) (by decide) (fun z => absurd z (by decide)) (fun _ => ?_)
  refine zV_iconst (v := (nI 5)) dX7_above_32 rfl rfl ?_
  refine zV_goto (tgt := 37) dX7_above_33 rfl ?_
  exact zV_ireturn dX7_above_37 rfl rfl (⟨rfl, rfl⟩)

set_option maxRecDepth 100000 in
theorem m_isUnder {G : mG} {I : Nat → Nat → Int32} {J : Nat → Nat → Int64} {t : Nat} {kd w : Nat} (hk : kd < 7) (hw : w < 7) : zC G yX7_isUnder (eX7_isUnder (g_rmv 1)) [.int (nI kd), .int (nI w)] (mm I J t) (fun r M => r = some (.int (b2 (k_isA kd w = true))) ∧ M = mm I J t) := by
  refine zC_of (by decide +kernel) rfl (by decide) (Nat.le_of_ble_eq_true rfl) ?_
  rcases (show kd = 0 ∨ kd = 1 ∨ kd = 2 ∨ kd = 3 ∨ kd = 4 ∨ kd = 5 ∨ kd = 6 by omega) with rfl | rfl | rfl | rfl | rfl | rfl | rfl
  · show zV G (eX7_isUnder (g_rmv 1)) (0, 0) 0 [(0, .int (nI 0)), (1, .int (nI w))] [] (mm I J t) _
    refine zV_iload_n dX7_isUnder_0 rfl 0 rfl rfl ?_
    refine zV_istore_n (lv' := [(0, .int (nI 0)), (1, .int (nI w)), (2, .int (nI 0))]) dX7_isUnder_1 rfl rfl (by decide) rfl ?_
    refine zV_iload_n dX7_isUnder_2 rfl 2 rfl rfl ?_
    refine zN_if_lt (tgt := 19) dX7_isUnder_3 rfl (by decide) rfl ?_
    refine zV_iload_n dX7_isUnder_6 rfl 2 rfl rfl ?_
    refine zV_iload_n dX7_isUnder_7 rfl 1 rfl rfl ?_
    refine zN_icmp_eq (tgt := 19) dX7_isUnder_8 rfl rfl (by omega) (by omega) (fun h8 => ?_) (fun h8 => ?_)
    · refine zV_iload_n dX7_isUnder_19 rfl 2 rfl rfl ?_
      refine zN_if_lt (tgt := 27) dX7_isUnder_20 rfl (by decide) rfl ?_
      refine zV_iconst (v := (nI 1)) dX7_isUnder_23 rfl rfl ?_
      refine zV_goto (tgt := 28) dX7_isUnder_24 rfl ?_
      exact zV_ireturn dX7_isUnder_28 rfl rfl (⟨z_b1 (by simp_all [k_isA] <;> omega), rfl⟩)
    · refine zV_iload_n dX7_isUnder_11 rfl 2 rfl rfl ?_
      refine zV_callS (E' := eX7_above (g_rmv 0)) (av := [.int (nI 0)]) (st := []) dX7_isUnder_12 rfl (k_RX7_96 _) rfl ⟨by decide, by decide⟩ ⟨by decide, by decide⟩ (Or.inl rfl) rfl (Nat.le_of_ble_eq_true rfl) m_above0 (fun r12 M12 z => ?_)
      obtain ⟨rfl, rfl⟩ := z
      show zV G (eX7_isUnder (g_rmv 1)) (0, 0) 15 [(0, .int (nI 0)), (1, .int (nI w)), (2, .int (nI 0))] [.int (-1)] (mm I J t) _
      refine zV_istore_n (lv' := [(0, .int (nI 0)), (1, .int (nI w)), (2, .int (-1))]) dX7_isUnder_15 rfl rfl (by decide) rfl ?_
      refine zV_goto (tgt := 2) dX7_isUnder_16 rfl ?_
      refine zV_iload_n dX7_isUnder_2 rfl 2 rfl rfl ?_
      refine zV_if_lt (tgt := 19) dX7_isUnder_3 rfl rfl  (fun _ => ?_) (fun z => absurd z (by decide))
      refine zV_iload_n dX7_isUnder_19 rfl 2 rfl rfl ?_
      refine zV_if_lt (tgt := 27) dX7_isUnder_20 rfl rfl  (fun _ => ?_) (fun z => absurd z (by decide))
      refine zV_iconst (v := (nI 0)) dX7_isUnder_27 rfl rfl ?_
      exact zV_ireturn dX7_isUnder_28 rfl rfl (⟨z_b0 (by simp_all [k_isA] <;> omega), rfl⟩)
  · show zV G (eX7_isUnder (g_rmv 1)) (0, 0) 0 [(0, .int (nI 1)), (1, .int (nI w))] [] (mm I J t) _
    refine zV_iload_n dX7_isUnder_0 rfl 0 rfl rfl ?_
    refine zV_istore_n (lv' := [(0, .int (nI 1)), (1, .int (nI w)), (2, .int (nI 1))]) dX7_isUnder_1 rfl rfl (by decide) rfl ?_
    refine zV_iload_n dX7_isUnder_2 rfl 2 rfl rfl ?_
    refine zN_if_lt (tgt := 19) dX7_isUnder_3 rfl (by decide) rfl ?_
    refine zV_iload_n dX7_isUnder_6 rfl 2 rfl rfl ?_
    refine zV_iload_n dX7_isUnder_7 rfl 1 rfl rfl ?_
    refine zN_icmp_eq (tgt := 19) dX7_isUnder_8 rfl rfl (by omega) (by omega) (fun h8 => ?_) (fun h8 => ?_)
    · refine zV_iload_n dX7_isUnder_19 rfl 2 rfl rfl ?_
      refine zN_if_lt (tgt := 27) dX7_isUnder_20 rfl (by decide) rfl ?_
      refine zV_iconst (v := (nI 1)) dX7_isUnder_23 rfl rfl ?_
      refine zV_goto (tgt := 28) dX7_isUnder_24 rfl ?_
      exact zV_ireturn dX7_isUnder_28 rfl rfl (⟨z_b1 (by simp_all [k_isA] <;> omega), rfl⟩)
    · refine zV_iload_n dX7_isUnder_11 rfl 2 rfl rfl ?_
      refine zV_callS (E' := eX7_above (g_rmv 0)) (av := [.int (nI 1)]) (st := []) dX7_isUnder_12 rfl (k_RX7_96 _) rfl ⟨by decide, by decide⟩ ⟨by decide, by decide⟩ (Or.inl rfl) rfl (Nat.le_of_ble_eq_true rfl) m_above1 (fun r12 M12 z => ?_)
      obtain ⟨rfl, rfl⟩ := z
      show zV G (eX7_isUnder (g_rmv 1)) (0, 0) 15 [(0, .int (nI 1)), (1, .int (nI w)), (2, .int (nI 1))] [.int (nI 0)] (mm I J t) _
      refine zV_istore_n (lv' := [(0, .int (nI 1)), (1, .int (nI w)), (2, .int (nI 0))]) dX7_isUnder_15 rfl rfl (by decide) rfl ?_
      refine zV_goto (tgt := 2) dX7_isUnder_16 rfl ?_
      refine zV_iload_n dX7_isUnder_2 rfl 2 rfl rfl ?_
      refine zN_if_lt (tgt := 19) dX7_isUnder_3 rfl (by decide) rfl ?_
      refine zV_iload_n dX7_isUnder_6 rfl 2 rfl rfl ?_
      refine zV_iload_n dX7_isUnder_7 rfl 1 rfl rfl ?_
      refine zN_icmp_eq (tgt := 19) dX7_isUnder_8 rfl rfl (by omega) (by omega) (fun h8 => ?_) (fun h8 => ?_)
      · refine zV_iload_n dX7_isUnder_19 rfl 2 rfl rfl ?_
        refine zN_if_lt (tgt := 27) dX7_isUnder_20 rfl (by decide) rfl ?_
        refine zV_iconst (v := (nI 1)) dX7_isUnder_23 rfl rfl ?_
        refine zV_goto (tgt := 28) dX7_isUnder_24 rfl ?_
        exact zV_ireturn dX7_isUnder_28 rfl rfl (⟨z_b1 (by simp_all [k_isA] <;> omega), rfl⟩)
      · refine zV_iload_n dX7_isUnder_11 rfl 2 rfl rfl ?_
        refine zV_callS (E' := eX7_above (g_rmv 0)) (av := [.int (nI 0)]) (st := []) dX7_isUnder_12 rfl (k_RX7_96 _) rfl ⟨by decide, by decide⟩ ⟨by decide, by decide⟩ (Or.inl rfl) rfl (Nat.le_of_ble_eq_true rfl) m_above0 (fun r12 M12 z => ?_)
        obtain ⟨rfl, rfl⟩ := z
        show zV G (eX7_isUnder (g_rmv 1)) (0, 0) 15 [(0, .int (nI 1)), (1, .int (nI w)), (2, .int (nI 0))] [.int (-1)] (mm I J t) _
        refine zV_istore_n (lv' := [(0, .int (nI 1)), (1, .int (nI w)), (2, .int (-1))]) dX7_isUnder_15 rfl rfl (by decide) rfl ?_
        refine zV_goto (tgt := 2) dX7_isUnder_16 rfl ?_
        refine zV_iload_n dX7_isUnder_2 rfl 2 rfl rfl ?_
        refine zV_if_lt (tgt := 19) dX7_isUnder_3 rfl rfl  (fun _ => ?_) (fun z => absurd z (by decide))
        refine zV_iload_n dX7_isUnder_19 rfl 2 rfl rfl ?_
        refine zV_if_lt (tgt := 27) dX7_isUnder_20 rfl rfl  (fun _ => ?_) (fun z => absurd z (by decide))
        refine zV_iconst (v := (nI 0)) dX7_isUnder_27 rfl rfl ?_
        exact zV_ireturn dX7_isUnder_28 rfl rfl (⟨z_b0 (by simp_all [k_isA] <;> omega), rfl⟩)
  · show zV G (eX7_isUnder (g_rmv 1)) (0, 0) 0 [(0, .int (nI 2)), (1, .int (nI w))] [] (mm I J t) _
    refine zV_iload_n dX7_isUnder_0 rfl 0 rfl rfl ?_
    refine zV_istore_n (lv' := [(0, .int (nI 2)), (1, .int (nI w)), (2, .int (nI 2))]) dX7_isUnder_1 rfl rfl (by decide) rfl ?_
    refine zV_iload_n dX7_isUnder_2 rfl 2 rfl rfl ?_
    refine zN_if_lt (tgt := 19) dX7_isUnder_3 rfl (by decide) rfl ?_
    refine zV_iload_n dX7_isUnder_6 rfl 2 rfl rfl ?_
    refine zV_iload_n dX7_isUnder_7 rfl 1 rfl rfl ?_
    refine zN_icmp_eq (tgt := 19) dX7_isUnder_8 rfl rfl (by omega) (by omega) (fun h8 => ?_) (fun h8 => ?_)
    · refine zV_iload_n dX7_isUnder_19 rfl 2 rfl rfl ?_
      refine zN_if_lt (tgt := 27) dX7_isUnder_20 rfl (by decide) rfl ?_
      refine zV_iconst (v := (nI 1)) dX7_isUnder_23 rfl rfl ?_
      refine zV_goto (tgt := 28) dX7_isUnder_24 rfl ?_
      exact zV_ireturn dX7_isUnder_28 rfl rfl (⟨z_b1 (by simp_all [k_isA] <;> omega), rfl⟩)
    · refine zV_iload_n dX7_isUnder_11 rfl 2 rfl rfl ?_
      refine zV_callS (E' := eX7_above (g_rmv 0)) (av := [.int (nI 2)]) (st := []) dX7_isUnder_12 rfl (k_RX7_96 _) rfl ⟨by decide, by decide⟩ ⟨by decide, by decide⟩ (Or.inl rfl) rfl (Nat.le_of_ble_eq_true rfl) m_above2 (fun r12 M12 z => ?_)
      obtain ⟨rfl, rfl⟩ := z
      show zV G (eX7_isUnder (g_rmv 1)) (0, 0) 15 [(0, .int (nI 2)), (1, .int (nI w)), (2, .int (nI 2))] [.int (nI 0)] (mm I J t) _
      refine zV_istore_n (lv' := [(0, .int (nI 2)), (1, .int (nI w)), (2, .int (nI 0))]) dX7_isUnder_15 rfl rfl (by decide) rfl ?_
      refine zV_goto (tgt := 2) dX7_isUnder_16 rfl ?_
      refine zV_iload_n dX7_isUnder_2 rfl 2 rfl rfl ?_
      refine zN_if_lt (tgt := 19) dX7_isUnder_3 rfl (by decide) rfl ?_
      refine zV_iload_n dX7_isUnder_6 rfl 2 rfl rfl ?_
      refine zV_iload_n dX7_isUnder_7 rfl 1 rfl rfl ?_
      refine zN_icmp_eq (tgt := 19) dX7_isUnder_8 rfl rfl (by omega) (by omega) (fun h8 => ?_) (fun h8 => ?_)
      · refine zV_iload_n dX7_isUnder_19 rfl 2 rfl rfl ?_
        refine zN_if_lt (tgt := 27) dX7_isUnder_20 rfl (by decide) rfl ?_
        refine zV_iconst (v := (nI 1)) dX7_isUnder_23 rfl rfl ?_
        refine zV_goto (tgt := 28) dX7_isUnder_24 rfl ?_
        exact zV_ireturn dX7_isUnder_28 rfl rfl (⟨z_b1 (by simp_all [k_isA] <;> omega), rfl⟩)
      · refine zV_iload_n dX7_isUnder_11 rfl 2 rfl rfl ?_
        refine zV_callS (E' := eX7_above (g_rmv 0)) (av := [.int (nI 0)]) (st := []) dX7_isUnder_12 rfl (k_RX7_96 _) rfl ⟨by decide, by decide⟩ ⟨by decide, by decide⟩ (Or.inl rfl) rfl (Nat.le_of_ble_eq_true rfl) m_above0 (fun r12 M12 z => ?_)
        obtain ⟨rfl, rfl⟩ := z
        show zV G (eX7_isUnder (g_rmv 1)) (0, 0) 15 [(0, .int (nI 2)), (1, .int (nI w)), (2, .int (nI 0))] [.int (-1)] (mm I J t) _
        refine zV_istore_n (lv' := [(0, .int (nI 2)), (1, .int (nI w)), (2, .int (-1))]) dX7_isUnder_15 rfl rfl (by decide) rfl ?_
        refine zV_goto (tgt := 2) dX7_isUnder_16 rfl ?_
        refine zV_iload_n dX7_isUnder_2 rfl 2 rfl rfl ?_
        refine zV_if_lt (tgt := 19) dX7_isUnder_3 rfl rfl  (fun _ => ?_) (fun z => absurd z (by decide))
        refine zV_iload_n dX7_isUnder_19 rfl 2 rfl rfl ?_
        refine zV_if_lt (tgt := 27) dX7_isUnder_20 rfl rfl  (fun _ => ?_) (fun z => absurd z (by decide))
        refine zV_iconst (v := (nI 0)) dX7_isUnder_27 rfl rfl ?_
        exact zV_ireturn dX7_isUnder_28 rfl rfl (⟨z_b0 (by simp_all [k_isA] <;> omega), rfl⟩)
  · show zV G (eX7_isUnder (g_rmv 1)) (0, 0) 0 [(0, .int (nI 3)), (1, .int (nI w))] [] (mm I J t) _
    refine zV_iload_n dX7_isUnder_0 rfl 0 rfl rfl ?_
    refine zV_istore_n (lv' := [(0, .int (nI 3)), (1, .int (nI w)), (2, .int (nI 3))]) dX7_isUnder_1 rfl rfl (by decide) rfl ?_
    refine zV_iload_n dX7_isUnder_2 rfl 2 rfl rfl ?_
    refine zN_if_lt (tgt := 19) dX7_isUnder_3 rfl (by decide) rfl ?_
    refine zV_iload_n dX7_isUnder_6 rfl 2 rfl rfl ?_
    refine zV_iload_n dX7_isUnder_7 rfl 1 rfl rfl ?_
    refine zN_icmp_eq (tgt := 19) dX7_isUnder_8 rfl rfl (by omega) (by omega) (fun h8 => ?_) (fun h8 => ?_)
    · refine zV_iload_n dX7_isUnder_19 rfl 2 rfl rfl ?_
      refine zN_if_lt (tgt := 27) dX7_isUnder_20 rfl (by decide) rfl ?_
      refine zV_iconst (v := (nI 1)) dX7_isUnder_23 rfl rfl ?_
      refine zV_goto (tgt := 28) dX7_isUnder_24 rfl ?_
      exact zV_ireturn dX7_isUnder_28 rfl rfl (⟨z_b1 (by simp_all [k_isA] <;> omega), rfl⟩)
    · refine zV_iload_n dX7_isUnder_11 rfl 2 rfl rfl ?_
      refine zV_callS (E' := eX7_above (g_rmv 0)) (av := [.int (nI 3)]) (st := []) dX7_isUnder_12 rfl (k_RX7_96 _) rfl ⟨by decide, by decide⟩ ⟨by decide, by decide⟩ (Or.inl rfl) rfl (Nat.le_of_ble_eq_true rfl) m_above3 (fun r12 M12 z => ?_)
      obtain ⟨rfl, rfl⟩ := z
      show zV G (eX7_isUnder (g_rmv 1)) (0, 0) 15 [(0, .int (nI 3)), (1, .int (nI w)), (2, .int (nI 3))] [.int (nI 2)] (mm I J t) _
      refine zV_istore_n (lv' := [(0, .int (nI 3)), (1, .int (nI w)), (2, .int (nI 2))]) dX7_isUnder_15 rfl rfl (by decide) rfl ?_
      refine zV_goto (tgt := 2) dX7_isUnder_16 rfl ?_
      refine zV_iload_n dX7_isUnder_2 rfl 2 rfl rfl ?_
      refine zN_if_lt (tgt := 19) dX7_isUnder_3 rfl (by decide) rfl ?_
      refine zV_iload_n dX7_isUnder_6 rfl 2 rfl rfl ?_
      refine zV_iload_n dX7_isUnder_7 rfl 1 rfl rfl ?_
      refine zN_icmp_eq (tgt := 19) dX7_isUnder_8 rfl rfl (by omega) (by omega) (fun h8 => ?_) (fun h8 => ?_)
      · refine zV_iload_n dX7_isUnder_19 rfl 2 rfl rfl ?_
        refine zN_if_lt (tgt := 27) dX7_isUnder_20 rfl (by decide) rfl ?_
        refine zV_iconst (v := (nI 1)) dX7_isUnder_23 rfl rfl ?_
        refine zV_goto (tgt := 28) dX7_isUnder_24 rfl ?_
        exact zV_ireturn dX7_isUnder_28 rfl rfl (⟨z_b1 (by simp_all [k_isA] <;> omega), rfl⟩)
      · refine zV_iload_n dX7_isUnder_11 rfl 2 rfl rfl ?_
        refine zV_callS (E' := eX7_above (g_rmv 0)) (av := [.int (nI 2)]) (st := []) dX7_isUnder_12 rfl (k_RX7_96 _) rfl ⟨by decide, by decide⟩ ⟨by decide, by decide⟩ (Or.inl rfl) rfl (Nat.le_of_ble_eq_true rfl) m_above2 (fun r12 M12 z => ?_)
        obtain ⟨rfl, rfl⟩ := z
        show zV G (eX7_isUnder (g_rmv 1)) (0, 0) 15 [(0, .int (nI 3)), (1, .int (nI w)), (2, .int (nI 2))] [.int (nI 0)] (mm I J t) _
        refine zV_istore_n (lv' := [(0, .int (nI 3)), (1, .int (nI w)), (2, .int (nI 0))]) dX7_isUnder_15 rfl rfl (by decide) rfl ?_
        refine zV_goto (tgt := 2) dX7_isUnder_16 rfl ?_
        refine zV_iload_n dX7_isUnder_2 rfl 2 rfl rfl ?_
        refine zN_if_lt (tgt := 19) dX7_isUnder_3 rfl (by decide) rfl ?_
        refine zV_iload_n dX7_isUnder_6 rfl 2 rfl rfl ?_
        refine zV_iload_n dX7_isUnder_7 rfl 1 rfl rfl ?_
        refine zN_icmp_eq (tgt := 19) dX7_isUnder_8 rfl rfl (by omega) (by omega) (fun h8 => ?_) (fun h8 => ?_)
        · refine zV_iload_n dX7_isUnder_19 rfl 2 rfl rfl ?_
          refine zN_if_lt (tgt := 27) dX7_isUnder_20 rfl (by decide) rfl ?_
          refine zV_iconst (v := (nI 1)) dX7_isUnder_23 rfl rfl ?_
          refine zV_goto (tgt := 28) dX7_isUnder_24 rfl ?_
          exact zV_ireturn dX7_isUnder_28 rfl rfl (⟨z_b1 (by simp_all [k_isA] <;> omega), rfl⟩)
        · refine zV_iload_n dX7_isUnder_11 rfl 2 rfl rfl ?_
          refine zV_callS (E' := eX7_above (g_rmv 0)) (av := [.int (nI 0)]) (st := []) dX7_isUnder_12 rfl (k_RX7_96 _) rfl ⟨by decide, by decide⟩ ⟨by decide, by decide⟩ (Or.inl rfl) rfl (Nat.le_of_ble_eq_true rfl) m_above0 (fun r12 M12 z => ?_)
          obtain ⟨rfl, rfl⟩ := z
          show zV G (eX7_isUnder (g_rmv 1)) (0, 0) 15 [(0, .int (nI 3)), (1, .int (nI w)), (2, .int (nI 0))] [.int (-1)] (mm I J t) _
          refine zV_istore_n (lv' := [(0, .int (nI 3)), (1, .int (nI w)), (2, .int (-1))]) dX7_isUnder_15 rfl rfl (by decide) rfl ?_
          refine zV_goto (tgt := 2) dX7_isUnder_16 rfl ?_
          refine zV_iload_n dX7_isUnder_2 rfl 2 rfl rfl ?_
          refine zV_if_lt (tgt := 19) dX7_isUnder_3 rfl rfl  (fun _ => ?_) (fun z => absurd z (by decide))
          refine zV_iload_n dX7_isUnder_19 rfl 2 rfl rfl ?_
          refine zV_if_lt (tgt := 27) dX7_isUnder_20 rfl rfl  (fun _ => ?_) (fun z => absurd z (by decide))
          refine zV_iconst (v := (nI 0)) dX7_isUnder_27 rfl rfl ?_
          exact zV_ireturn dX7_isUnder_28 rfl rfl (⟨z_b0 (by simp_all [k_isA] <;> omega), rfl⟩)
  · show zV G (eX7_isUnder (g_rmv 1)) (0, 0) 0 [(0, .int (nI 4)), (1, .int (nI w))] [] (mm I J t) _
    refine zV_iload_n dX7_isUnder_0 rfl 0 rfl rfl ?_
    refine zV_istore_n (lv' := [(0, .int (nI 4)), (1, .int (nI w)), (2, .int (nI 4))]) dX7_isUnder_1 rfl rfl (by decide) rfl ?_
    refine zV_iload_n dX7_isUnder_2 rfl 2 rfl rfl ?_
    refine zN_if_lt (tgt := 19) dX7_isUnder_3 rfl (by decide) rfl ?_
    refine zV_iload_n dX7_isUnder_6 rfl 2 rfl rfl ?_
    refine zV_iload_n dX7_isUnder_7 rfl 1 rfl rfl ?_
    refine zN_icmp_eq (tgt := 19) dX7_isUnder_8 rfl rfl (by omega) (by omega) (fun h8 => ?_) (fun h8 => ?_)
    · refine zV_iload_n dX7_isUnder_19 rfl 2 rfl rfl ?_
      refine zN_if_lt (tgt := 27) dX7_isUnder_20 rfl (by decide) rfl ?_
      refine zV_iconst (v := (nI 1)) dX7_isUnder_23 rfl rfl ?_
      refine zV_goto (tgt := 28) dX7_isUnder_24 rfl ?_
      exact zV_ireturn dX7_isUnder_28 rfl rfl (⟨z_b1 (by simp_all [k_isA] <;> omega), rfl⟩)
    · refine zV_iload_n dX7_isUnder_11 rfl 2 rfl rfl ?_
      refine zV_callS (E' := eX7_above (g_rmv 0)) (av := [.int (nI 4)]) (st := []) dX7_isUnder_12 rfl (k_RX7_96 _) rfl ⟨by decide, by decide⟩ ⟨by decide, by decide⟩ (Or.inl rfl) rfl (Nat.le_of_ble_eq_true rfl) m_above4 (fun r12 M12 z => ?_)
      obtain ⟨rfl, rfl⟩ := z
      show zV G (eX7_isUnder (g_rmv 1)) (0, 0) 15 [(0, .int (nI 4)), (1, .int (nI w)), (2, .int (nI 4))] [.int (nI 1)] (mm I J t) _
      refine zV_istore_n (lv' := [(0, .int (nI 4)), (1, .int (nI w)), (2, .int (nI 1))]) dX7_isUnder_15 rfl rfl (by decide) rfl ?_
      refine zV_goto (tgt := 2) dX7_isUnder_16 rfl ?_
      refine zV_iload_n dX7_isUnder_2 rfl 2 rfl rfl ?_
      refine zN_if_lt (tgt := 19) dX7_isUnder_3 rfl (by decide) rfl ?_
      refine zV_iload_n dX7_isUnder_6 rfl 2 rfl rfl ?_
      refine zV_iload_n dX7_isUnder_7 rfl 1 rfl rfl ?_
      refine zN_icmp_eq (tgt := 19) dX7_isUnder_8 rfl rfl (by omega) (by omega) (fun h8 => ?_) (fun h8 => ?_)
      · refine zV_iload_n dX7_isUnder_19 rfl 2 rfl rfl ?_
        refine zN_if_lt (tgt := 27) dX7_isUnder_20 rfl (by decide) rfl ?_
        refine zV_iconst (v := (nI 1)) dX7_isUnder_23 rfl rfl ?_
        refine zV_goto (tgt := 28) dX7_isUnder_24 rfl ?_
        exact zV_ireturn dX7_isUnder_28 rfl rfl (⟨z_b1 (by simp_all [k_isA] <;> omega), rfl⟩)
      · refine zV_iload_n dX7_isUnder_11 rfl 2 rfl rfl ?_
        refine zV_callS (E' := eX7_above (g_rmv 0)) (av := [.int (nI 1)]) (st := []) dX7_isUnder_12 rfl (k_RX7_96 _) rfl ⟨by decide, by decide⟩ ⟨by decide, by decide⟩ (Or.inl rfl) rfl (Nat.le_of_ble_eq_true rfl) m_above1 (fun r12 M12 z => ?_)
        obtain ⟨rfl, rfl⟩ := z
        show zV G (eX7_isUnder (g_rmv 1)) (0, 0) 15 [(0, .int (nI 4)), (1, .int (nI w)), (2, .int (nI 1))] [.int (nI 0)] (mm I J t) _
        refine zV_istore_n (lv' := [(0, .int (nI 4)), (1, .int (nI w)), (2, .int (nI 0))]) dX7_isUnder_15 rfl rfl (by decide) rfl ?_
        refine zV_goto (tgt := 2) dX7_isUnder_16 rfl ?_
        refine zV_iload_n dX7_isUnder_2 rfl 2 rfl rfl ?_
        refine zN_if_lt (tgt := 19) dX7_isUnder_3 rfl (by decide) rfl ?_
        refine zV_iload_n dX7_isUnder_6 rfl 2 rfl rfl ?_
        refine zV_iload_n dX7_isUnder_7 rfl 1 rfl rfl ?_
        refine zN_icmp_eq (tgt := 19) dX7_isUnder_8 rfl rfl (by omega) (by omega) (fun h8 => ?_) (fun h8 => ?_)
        · refine zV_iload_n dX7_isUnder_19 rfl 2 rfl rfl ?_
          refine zN_if_lt (tgt := 27) dX7_isUnder_20 rfl (by decide) rfl ?_
          refine zV_iconst (v := (nI 1)) dX7_isUnder_23 rfl rfl ?_
          refine zV_goto (tgt := 28) dX7_isUnder_24 rfl ?_
          exact zV_ireturn dX7_isUnder_28 rfl rfl (⟨z_b1 (by simp_all [k_isA] <;> omega), rfl⟩)
        · refine zV_iload_n dX7_isUnder_11 rfl 2 rfl rfl ?_
          refine zV_callS (E' := eX7_above (g_rmv 0)) (av := [.int (nI 0)]) (st := []) dX7_isUnder_12 rfl (k_RX7_96 _) rfl ⟨by decide, by decide⟩ ⟨by decide, by decide⟩ (Or.inl rfl) rfl (Nat.le_of_ble_eq_true rfl) m_above0 (fun r12 M12 z => ?_)
          obtain ⟨rfl, rfl⟩ := z
          show zV G (eX7_isUnder (g_rmv 1)) (0, 0) 15 [(0, .int (nI 4)), (1, .int (nI w)), (2, .int (nI 0))] [.int (-1)] (mm I J t) _
          refine zV_istore_n (lv' := [(0, .int (nI 4)), (1, .int (nI w)), (2, .int (-1))]) dX7_isUnder_15 rfl rfl (by decide) rfl ?_
          refine zV_goto (tgt := 2) dX7_isUnder_16 rfl ?_
          refine zV_iload_n dX7_isUnder_2 rfl 2 rfl rfl ?_
          refine zV_if_lt (tgt := 19) dX7_isUnder_3 rfl rfl  (fun _ => ?_) (fun z => absurd z (by decide))
          refine zV_iload_n dX7_isUnder_19 rfl 2 rfl rfl ?_
          refine zV_if_lt (tgt := 27) dX7_isUnder_20 rfl rfl  (fun _ => ?_) (fun z => absurd z (by decide))
          refine zV_iconst (v := (nI 0)) dX7_isUnder_27 rfl rfl ?_
          exact zV_ireturn dX7_isUnder_28 rfl rfl (⟨z_b0 (by simp_all [k_isA] <;> omega), rfl⟩)
  · show zV G (eX7_isUnder (g_rmv 1)) (0, 0) 0 [(0, .int (nI 5)), (1, .int (nI w))] [] (mm I J t) _
    refine zV_iload_n dX7_isUnder_0 rfl 0 rfl rfl ?_
    refine zV_istore_n (lv' := [(0, .int (nI 5)), (1, .int (nI w)), (2, .int (nI 5))]) dX7_isUnder_1 rfl rfl (by decide) rfl ?_
    refine zV_iload_n dX7_isUnder_2 rfl 2 rfl rfl ?_
    refine zN_if_lt (tgt := 19) dX7_isUnder_3 rfl (by decide) rfl ?_
    refine zV_iload_n dX7_isUnder_6 rfl 2 rfl rfl ?_
    refine zV_iload_n dX7_isUnder_7 rfl 1 rfl rfl ?_
    refine zN_icmp_eq (tgt := 19) dX7_isUnder_8 rfl rfl (by omega) (by omega) (fun h8 => ?_) (fun h8 => ?_)
    · refine zV_iload_n dX7_isUnder_19 rfl 2 rfl rfl ?_
      refine zN_if_lt (tgt := 27) dX7_isUnder_20 rfl (by decide) rfl ?_
      refine zV_iconst (v := (nI 1)) dX7_isUnder_23 rfl rfl ?_
      refine zV_goto (tgt := 28) dX7_isUnder_24 rfl ?_
      exact zV_ireturn dX7_isUnder_28 rfl rfl (⟨z_b1 (by simp_all [k_isA] <;> omega), rfl⟩)
    · refine zV_iload_n dX7_isUnder_11 rfl 2 rfl rfl ?_
      refine zV_callS (E' := eX7_above (g_rmv 0)) (av := [.int (nI 5)]) (st := []) dX7_isUnder_12 rfl (k_RX7_96 _) rfl ⟨by decide, by decide⟩ ⟨by decide, by decide⟩ (Or.inl rfl) rfl (Nat.le_of_ble_eq_true rfl) m_above5 (fun r12 M12 z => ?_)
      obtain ⟨rfl, rfl⟩ := z
      show zV G (eX7_isUnder (g_rmv 1)) (0, 0) 15 [(0, .int (nI 5)), (1, .int (nI w)), (2, .int (nI 5))] [.int (nI 0)] (mm I J t) _
      refine zV_istore_n (lv' := [(0, .int (nI 5)), (1, .int (nI w)), (2, .int (nI 0))]) dX7_isUnder_15 rfl rfl (by decide) rfl ?_
      refine zV_goto (tgt := 2) dX7_isUnder_16 rfl ?_
      refine zV_iload_n dX7_isUnder_2 rfl 2 rfl rfl ?_
      refine zN_if_lt (tgt := 19) dX7_isUnder_3 rfl (by decide) rfl ?_
      refine zV_iload_n dX7_isUnder_6 rfl 2 rfl rfl ?_
      refine zV_iload_n dX7_isUnder_7 rfl 1 rfl rfl ?_
      refine zN_icmp_eq (tgt := 19) dX7_isUnder_8 rfl rfl (by omega) (by omega) (fun h8 => ?_) (fun h8 => ?_)
      · refine zV_iload_n dX7_isUnder_19 rfl 2 rfl rfl ?_
        refine zN_if_lt (tgt := 27) dX7_isUnder_20 rfl (by decide) rfl ?_
        refine zV_iconst (v := (nI 1)) dX7_isUnder_23 rfl rfl ?_
        refine zV_goto (tgt := 28) dX7_isUnder_24 rfl ?_
        exact zV_ireturn dX7_isUnder_28 rfl rfl (⟨z_b1 (by simp_all [k_isA] <;> omega), rfl⟩)
      · refine zV_iload_n dX7_isUnder_11 rfl 2 rfl rfl ?_
        refine zV_callS (E' := eX7_above (g_rmv 0)) (av := [.int (nI 0)]) (st := []) dX7_isUnder_12 rfl (k_RX7_96 _) rfl ⟨by decide, by decide⟩ ⟨by decide, by decide⟩ (Or.inl rfl) rfl (Nat.le_of_ble_eq_true rfl) m_above0 (fun r12 M12 z => ?_)
        obtain ⟨rfl, rfl⟩ := z
        show zV G (eX7_isUnder (g_rmv 1)) (0, 0) 15 [(0, .int (nI 5)), (1, .int (nI w)), (2, .int (nI 0))] [.int (-1)] (mm I J t) _
        refine zV_istore_n (lv' := [(0, .int (nI 5)), (1, .int (nI w)), (2, .int (-1))]) dX7_isUnder_15 rfl rfl (by decide) rfl ?_
        refine zV_goto (tgt := 2) dX7_isUnder_16 rfl ?_
        refine zV_iload_n dX7_isUnder_2 rfl 2 rfl rfl ?_
        refine zV_if_lt (tgt := 19) dX7_isUnder_3 rfl rfl  (fun _ => ?_) (fun z => absurd z (by decide))
        refine zV_iload_n dX7_isUnder_19 rfl 2 rfl rfl ?_
        refine zV_if_lt (tgt := 27) dX7_isUnder_20 rfl rfl  (fun _ => ?_) (fun z => absurd z (by decide))
        refine zV_iconst (v := (nI 0)) dX7_isUnder_27 rfl rfl ?_
        exact zV_ireturn dX7_isUnder_28 rfl rfl (⟨z_b0 (by simp_all [k_isA] <;> omega), rfl⟩)
  · show zV G (eX7_isUnder (g_rmv 1)) (0, 0) 0 [(0, .int (nI 6)), (1, .int (nI w))] [] (mm I J t) _
    refine zV_iload_n dX7_isUnder_0 rfl 0 rfl rfl ?_
    refine zV_istore_n (lv' := [(0, .int (nI 6)), (1, .int (nI w)), (2, .int (nI 6))]) dX7_isUnder_1 rfl rfl (by decide) rfl ?_
    refine zV_iload_n dX7_isUnder_2 rfl 2 rfl rfl ?_
    refine zN_if_lt (tgt := 19) dX7_isUnder_3 rfl (by decide) rfl ?_
    refine zV_iload_n dX7_isUnder_6 rfl 2 rfl rfl ?_
    refine zV_iload_n dX7_isUnder_7 rfl 1 rfl rfl ?_
    refine zN_icmp_eq (tgt := 19) dX7_isUnder_8 rfl rfl (by omega) (by omega) (fun h8 => ?_) (fun h8 => ?_)
    · refine zV_iload_n dX7_isUnder_19 rfl 2 rfl rfl ?_
      refine zN_if_lt (tgt := 27) dX7_isUnder_20 rfl (by decide) rfl ?_
      refine zV_iconst (v := (nI 1)) dX7_isUnder_23 rfl rfl ?_
      refine zV_goto (tgt := 28) dX7_isUnder_24 rfl ?_
      exact zV_ireturn dX7_isUnder_28 rfl rfl (⟨z_b1 (by simp_all [k_isA] <;> omega), rfl⟩)
    · refine zV_iload_n dX7_isUnder_11 rfl 2 rfl rfl ?_
      refine zV_callS (E' := eX7_above (g_rmv 0)) (av := [.int (nI 6)]) (st := []) dX7_isUnder_12 rfl (k_RX7_96 _) rfl ⟨by decide, by decide⟩ ⟨by decide, by decide⟩ (Or.inl rfl) rfl (Nat.le_of_ble_eq_true rfl) m_above6 (fun r12 M12 z => ?_)
      obtain ⟨rfl, rfl⟩ := z
      show zV G (eX7_isUnder (g_rmv 1)) (0, 0) 15 [(0, .int (nI 6)), (1, .int (nI w)), (2, .int (nI 6))] [.int (nI 5)] (mm I J t) _
      refine zV_istore_n (lv' := [(0, .int (nI 6)), (1, .int (nI w)), (2, .int (nI 5))]) dX7_isUnder_15 rfl rfl (by decide) rfl ?_
      refine zV_goto (tgt := 2) dX7_isUnder_16 rfl ?_
      refine zV_iload_n dX7_isUnder_2 rfl 2 rfl rfl ?_
      refine zN_if_lt (tgt := 19) dX7_isUnder_3 rfl (by decide) rfl ?_
      refine zV_iload_n dX7_isUnder_6 rfl 2 rfl rfl ?_
      refine zV_iload_n dX7_isUnder_7 rfl 1 rfl rfl ?_
      refine zN_icmp_eq (tgt := 19) dX7_isUnder_8 rfl rfl (by omega) (by omega) (fun h8 => ?_) (fun h8 => ?_)
      · refine zV_iload_n dX7_isUnder_19 rfl 2 rfl rfl ?_
        refine zN_if_lt (tgt := 27) dX7_isUnder_20 rfl (by decide) rfl ?_
        refine zV_iconst (v := (nI 1)) dX7_isUnder_23 rfl rfl ?_
        refine zV_goto (tgt := 28) dX7_isUnder_24 rfl ?_
        exact zV_ireturn dX7_isUnder_28 rfl rfl (⟨z_b1 (by simp_all [k_isA] <;> omega), rfl⟩)
      · refine zV_iload_n dX7_isUnder_11 rfl 2 rfl rfl ?_
        refine zV_callS (E' := eX7_above (g_rmv 0)) (av := [.int (nI 5)]) (st := []) dX7_isUnder_12 rfl (k_RX7_96 _) rfl ⟨by decide, by decide⟩ ⟨by decide, by decide⟩ (Or.inl rfl) rfl (Nat.le_of_ble_eq_true rfl) m_above5 (fun r12 M12 z => ?_)
        obtain ⟨rfl, rfl⟩ := z
        show zV G (eX7_isUnder (g_rmv 1)) (0, 0) 15 [(0, .int (nI 6)), (1, .int (nI w)), (2, .int (nI 5))] [.int (nI 0)] (mm I J t) _
        refine zV_istore_n (lv' := [(0, .int (nI 6)), (1, .int (nI w)), (2, .int (nI 0))]) dX7_isUnder_15 rfl rfl (by decide) rfl ?_
        refine zV_goto (tgt := 2) dX7_isUnder_16 rfl ?_
        refine zV_iload_n dX7_isUnder_2 rfl 2 rfl rfl ?_
        refine zN_if_lt (tgt := 19) dX7_isUnder_3 rfl (by decide) rfl ?_
        refine zV_iload_n dX7_isUnder_6 rfl 2 rfl rfl ?_
        refine zV_iload_n dX7_isUnder_7 rfl 1 rfl rfl ?_
        refine zN_icmp_eq (tgt := 19) dX7_isUnder_8 rfl rfl (by omega) (by omega) (fun h8 => ?_) (fun h8 => ?_)
        · refine zV_iload_n dX7_isUnder_19 rfl 2 rfl rfl ?_
          refine zN_if_lt (tgt := 27) dX7_isUnder_20 rfl (by decide) rfl ?_
          refine zV_iconst (v := (nI 1)) dX7_isUnder_23 rfl rfl ?_
          refine zV_goto (tgt := 28) dX7_isUnder_24 rfl ?_
          exact zV_ireturn dX7_isUnder_28 rfl rfl (⟨z_b1 (by simp_all [k_isA] <;> omega), rfl⟩)
        · refine zV_iload_n dX7_isUnder_11 rfl 2 rfl rfl ?_
          refine zV_callS (E' := eX7_above (g_rmv 0)) (av := [.int (nI 0)]) (st := []) dX7_isUnder_12 rfl (k_RX7_96 _) rfl ⟨by decide, by decide⟩ ⟨by decide, by decide⟩ (Or.inl rfl) rfl (Nat.le_of_ble_eq_true rfl) m_above0 (fun r12 M12 z => ?_)
          obtain ⟨rfl, rfl⟩ := z
          show zV G (eX7_isUnder (g_rmv 1)) (0, 0) 15 [(0, .int (nI 6)), (1, .int (nI w)), (2, .int (nI 0))] [.int (-1)] (mm I J t) _
          refine zV_istore_n (lv' := [(0, .int (nI 6)), (1, .int (nI w)), (2, .int (-1))]) dX7_isUnder_15 rfl rfl (by decide) rfl ?_
          refine zV_goto (tgt := 2) dX7_isUnder_16 rfl ?_
          refine zV_iload_n dX7_isUnder_2 rfl 2 rfl rfl ?_
          refine zV_if_lt (tgt := 19) dX7_isUnder_3 rfl rfl  (fun _ => ?_) (fun z => absurd z (by decide))
          refine zV_iload_n dX7_isUnder_19 rfl 2 rfl rfl ?_
          refine zV_if_lt (tgt := 27) dX7_isUnder_20 rfl rfl  (fun _ => ?_) (fun z => absurd z (by decide))
          refine zV_iconst (v := (nI 0)) dX7_isUnder_27 rfl rfl ?_
          exact zV_ireturn dX7_isUnder_28 rfl rfl (⟨z_b0 (by simp_all [k_isA] <;> omega), rfl⟩)

theorem k_isA2 (kd : Nat) : k_isA kd 2 = true ↔ (kd = 2 ∨ kd = 3) := by simp [k_isA]; omega
set_option maxRecDepth 100000 in
theorem m_worthSo {G : mG} {I : Nat → Nat → Int32} {J : Nat → Nat → Int64} {t : Nat} {B : Nat} {σ : aL} (hR : absR I 77 σ) (hW : wfL B σ) {c : Nat} (hc : c < σ.1) {kd sd tu wh : Nat} (h1 : kd < 7) (h2 : sd < 2) (h3 : tu < 1000010) (h4 : wh < 4) : zC G yX7_worthSo (eX7_worthSo (g_rmv 2)) [.ref 76, .int (nI c), .int (nI kd), .int (nI sd), .int (nI tu), .int (nI wh)] (mm I J t) (fun r M => r = some (.int (nI (k_wIf (σ.2.1 c) kd sd tu wh))) ∧ M = mm I J t) := by
  refine zC_of (by decide +kernel) rfl (by decide) (Nat.le_of_ble_eq_true rfl) ?_
  have n10 := hW.1
  have w := hW.2.1 c hc
  obtain ⟨w0, w1, w2, w3, w4, w5, w6⟩ := id w
  show zV G (eX7_worthSo (g_rmv 2)) (0, 0) 0 [(0, .ref 76), (1, .int (nI c)), (2, .int (nI kd)), (3, .int (nI sd)), (4, .int (nI tu)), (5, .int (nI wh))] [] (mm I J t) _
  refine zV_iload_n dX7_worthSo_0 rfl 3 rfl rfl ?_
  refine zN_if_ne (tgt := 13) dX7_worthSo_1 rfl rfl (by omega) (fun h1 => ?_) (fun h1 => ?_)
  · refine zV_aload_n dX7_worthSo_13 rfl 0 rfl rfl ?_
    refine zV_iload_n dX7_worthSo_14 rfl 1 rfl rfl ?_
    refine zV_iconst (v := (nI 3)) dX7_worthSo_15 rfl rfl ?_
    refine zV_callV (E' := eX7_coinIs (g_rmv 1)) (av := [.int (nI c), .int (nI 3)]) (st := []) (b := 76) dX7_worthSo_16 rfl (k_RX7_99 _) rfl ⟨by decide, by decide⟩ ⟨by decide, by decide⟩ (Or.inl rfl) rfl (Nat.le_of_ble_eq_true rfl) rfl rfl rfl (m_coinIs (c := c) (f := 3) hR hW hc (by decide)) (fun r16 M16 z => ?_)
    obtain ⟨rfl, rfl⟩ := z
    show zV G (eX7_worthSo (g_rmv 2)) (0, 0) 19 [(0, .ref 76), (1, .int (nI c)), (2, .int (nI kd)), (3, .int (nI sd)), (4, .int (nI tu)), (5, .int (nI wh))] [.int (nI (σ.2.1 c 3))] (mm I J t) _
    refine zV_istore (lv' := [(0, .ref 76), (1, .int (nI c)), (2, .int (nI kd)), (3, .int (nI sd)), (4, .int (nI tu)), (5, .int (nI wh)), (6, .int (nI (σ.2.1 c 3)))]) dX7_worthSo_19 rfl (by decide) rfl ?_
    refine zV_iload_n dX7_worthSo_21 rfl 2 rfl rfl ?_
    refine zN_tbl (lo' := 1) (hi' := 6) (td := 112) dX7_worthSo_22 rfl rfl (by omega) rfl (fun h22 => ?_) (fun i hi1 hi2 h22 => ?_)
    · refine zV_iload dX7_worthSo_112 rfl 6 rfl ?_
      exact zV_ireturn dX7_worthSo_114 rfl rfl (⟨congrArg (fun x => some (Value.int (nI x))) (by unfold k_wIf k_face; (repeat' split) <;> omega), rfl⟩)
    · rcases (show i = 1 ∨ i = 2 ∨ i = 3 ∨ i = 4 ∨ i = 5 ∨ i = 6 by omega) with rfl | rfl | rfl | rfl | rfl | rfl
      · refine ⟨_, 60, rfl, rfl, ?_⟩
        refine zV_iload dX7_worthSo_60 rfl 6 rfl ?_
        refine zV_iconst (v := (nI 1)) dX7_worthSo_62 rfl rfl ?_
        refine zA_iadd (z := (nI ((σ.2.1 c 3) + 1))) dX7_worthSo_63 rfl  (nI_add _ _) ?_
        exact zV_ireturn dX7_worthSo_64 rfl rfl (⟨congrArg (fun x => some (Value.int (nI x))) (by unfold k_wIf k_face; (repeat' split) <;> omega), rfl⟩)
      · refine ⟨_, 112, rfl, rfl, ?_⟩
        refine zV_iload dX7_worthSo_112 rfl 6 rfl ?_
        exact zV_ireturn dX7_worthSo_114 rfl rfl (⟨congrArg (fun x => some (Value.int (nI x))) (by unfold k_wIf k_face; (repeat' split) <;> omega), rfl⟩)
      · refine ⟨_, 65, rfl, rfl, ?_⟩
        refine zV_aload_n dX7_worthSo_65 rfl 0 rfl rfl ?_
        refine zV_iload_n dX7_worthSo_66 rfl 1 rfl rfl ?_
        refine zV_iconst (v := (nI 2)) dX7_worthSo_67 rfl rfl ?_
        refine zV_callV (E' := eX7_coinIs (g_rmv 1)) (av := [.int (nI c), .int (nI 2)]) (st := []) (b := 76) dX7_worthSo_68 rfl (k_RX7_99 _) rfl ⟨by decide, by decide⟩ ⟨by decide, by decide⟩ (Or.inl rfl) rfl (Nat.le_of_ble_eq_true rfl) rfl rfl rfl (m_coinIs (c := c) (f := 2) hR hW hc (by decide)) (fun r68 M68 z => ?_)
        obtain ⟨rfl, rfl⟩ := z
        show zV G (eX7_worthSo (g_rmv 2)) (0, 0) 71 [(0, .ref 76), (1, .int (nI c)), (2, .int (nI kd)), (3, .int (nI sd)), (4, .int (nI tu)), (5, .int (nI wh)), (6, .int (nI (σ.2.1 c 3)))] [.int (nI (σ.2.1 c 2))] (mm I J t) _
        exact zV_ireturn dX7_worthSo_71 rfl rfl (⟨congrArg (fun x => some (Value.int (nI x))) (by unfold k_wIf k_face; (repeat' split) <;> omega), rfl⟩)
      · refine ⟨_, 60, rfl, rfl, ?_⟩
        refine zV_iload dX7_worthSo_60 rfl 6 rfl ?_
        refine zV_iconst (v := (nI 1)) dX7_worthSo_62 rfl rfl ?_
        refine zA_iadd (z := (nI ((σ.2.1 c 3) + 1))) dX7_worthSo_63 rfl  (nI_add _ _) ?_
        exact zV_ireturn dX7_worthSo_64 rfl rfl (⟨congrArg (fun x => some (Value.int (nI x))) (by unfold k_wIf k_face; (repeat' split) <;> omega), rfl⟩)
      · refine ⟨_, 72, rfl, rfl, ?_⟩
        refine zV_iconst (v := (nI 0)) dX7_worthSo_72 rfl rfl ?_
        refine zV_iload dX7_worthSo_73 rfl 6 rfl ?_
        refine zV_iload dX7_worthSo_75 rfl 4 rfl ?_
        refine zA_isub (z := ((nI (σ.2.1 c 3)) - (nI tu))) dX7_worthSo_77 rfl  (rfl) ?_
        refine zV_callS (E' := eJ9_max_7cf53 (g_rmv 0)) (av := [.int (nI 0), .int ((nI (σ.2.1 c 3)) - (nI tu))]) (st := []) dX7_worthSo_78 rfl (k_RX7_102 _) rfl ⟨by decide, by decide⟩ ⟨by decide, by decide⟩ (Or.inl rfl) rfl (Nat.le_of_ble_eq_true rfl) (c_max0 (a := (σ.2.1 c 3)) (b := tu) (by omega) (by omega)) (fun r78 M78 z => ?_)
        obtain ⟨rfl, rfl⟩ := z
        show zV G (eX7_worthSo (g_rmv 2)) (0, 0) 81 [(0, .ref 76), (1, .int (nI c)), (2, .int (nI kd)), (3, .int (nI sd)), (4, .int (nI tu)), (5, .int (nI wh)), (6, .int (nI (σ.2.1 c 3)))] [.int (nI ((σ.2.1 c 3) - tu))] (mm I J t) _
        exact zV_ireturn dX7_worthSo_81 rfl rfl (⟨congrArg (fun x => some (Value.int (nI x))) (by unfold k_wIf k_face; (repeat' split) <;> omega), rfl⟩)
      · refine ⟨_, 82, rfl, rfl, ?_⟩
        refine zV_iload dX7_worthSo_82 rfl 5 rfl ?_
        refine zV_iconst (v := (nI 3)) dX7_worthSo_84 rfl rfl ?_
        refine zN_icmp_ne (tgt := 100) dX7_worthSo_85 rfl rfl (by omega) (by omega) (fun h85 => ?_) (fun h85 => ?_)
        · refine zV_iconst (v := (nI 0)) dX7_worthSo_100 rfl rfl ?_
          refine zV_iload dX7_worthSo_101 rfl 6 rfl ?_
          refine zV_iload dX7_worthSo_103 rfl 4 rfl ?_
          refine zA_isub (z := ((nI (σ.2.1 c 3)) - (nI tu))) dX7_worthSo_105 rfl  (rfl) ?_
          refine zV_callS (E' := eJ9_max_7cf53 (g_rmv 0)) (av := [.int (nI 0), .int ((nI (σ.2.1 c 3)) - (nI tu))]) (st := []) dX7_worthSo_106 rfl (k_RX7_102 _) rfl ⟨by decide, by decide⟩ ⟨by decide, by decide⟩ (Or.inl rfl) rfl (Nat.le_of_ble_eq_true rfl) (c_max0 (a := (σ.2.1 c 3)) (b := tu) (by omega) (by omega)) (fun r106 M106 z => ?_)
          obtain ⟨rfl, rfl⟩ := z
          show zV G (eX7_worthSo (g_rmv 2)) (0, 0) 109 [(0, .ref 76), (1, .int (nI c)), (2, .int (nI kd)), (3, .int (nI sd)), (4, .int (nI tu)), (5, .int (nI wh)), (6, .int (nI (σ.2.1 c 3)))] [.int (nI ((σ.2.1 c 3) - tu))] (mm I J t) _
          refine zV_iconst (v := (nI 2)) dX7_worthSo_109 rfl rfl ?_
          refine zA_idiv (z := (nI (((σ.2.1 c 3) - tu) / 2))) dX7_worthSo_110 rfl (by decide) (pk_div (by omega) (by omega) (by omega)) ?_
          exact zV_ireturn dX7_worthSo_111 rfl rfl (⟨congrArg (fun x => some (Value.int (nI x))) (by unfold k_wIf k_face; (repeat' split) <;> omega), rfl⟩)
        · refine zV_iconst (v := (nI 0)) dX7_worthSo_88 rfl rfl ?_
          refine zV_iload dX7_worthSo_89 rfl 6 rfl ?_
          refine zV_iload dX7_worthSo_91 rfl 4 rfl ?_
          refine zA_isub (z := ((nI (σ.2.1 c 3)) - (nI tu))) dX7_worthSo_93 rfl  (rfl) ?_
          refine zV_callS (E' := eJ9_max_7cf53 (g_rmv 0)) (av := [.int (nI 0), .int ((nI (σ.2.1 c 3)) - (nI tu))]) (st := []) dX7_worthSo_94 rfl (k_RX7_102 _) rfl ⟨by decide, by decide⟩ ⟨by decide, by decide⟩ (Or.inl rfl) rfl (Nat.le_of_ble_eq_true rfl) (c_max0 (a := (σ.2.1 c 3)) (b := tu) (by omega) (by omega)) (fun r94 M94 z => ?_)
          obtain ⟨rfl, rfl⟩ := z
          show zV G (eX7_worthSo (g_rmv 2)) (0, 0) 97 [(0, .ref 76), (1, .int (nI c)), (2, .int (nI kd)), (3, .int (nI sd)), (4, .int (nI tu)), (5, .int (nI wh)), (6, .int (nI (σ.2.1 c 3)))] [.int (nI ((σ.2.1 c 3) - tu))] (mm I J t) _
          refine zV_goto (tgt := 111) dX7_worthSo_97 rfl ?_
          exact zV_ireturn dX7_worthSo_111 rfl rfl (⟨congrArg (fun x => some (Value.int (nI x))) (by unfold k_wIf k_face; (repeat' split) <;> omega), rfl⟩)
  · refine zV_aload_n dX7_worthSo_4 rfl 0 rfl rfl ?_
    refine zV_iload_n dX7_worthSo_5 rfl 1 rfl rfl ?_
    refine zV_iconst (v := (nI 2)) dX7_worthSo_6 rfl rfl ?_
    refine zV_callV (E' := eX7_coinIs (g_rmv 1)) (av := [.int (nI c), .int (nI 2)]) (st := []) (b := 76) dX7_worthSo_7 rfl (k_RX7_99 _) rfl ⟨by decide, by decide⟩ ⟨by decide, by decide⟩ (Or.inl rfl) rfl (Nat.le_of_ble_eq_true rfl) rfl rfl rfl (m_coinIs (c := c) (f := 2) hR hW hc (by decide)) (fun r7 M7 z => ?_)
    obtain ⟨rfl, rfl⟩ := z
    show zV G (eX7_worthSo (g_rmv 2)) (0, 0) 10 [(0, .ref 76), (1, .int (nI c)), (2, .int (nI kd)), (3, .int (nI sd)), (4, .int (nI tu)), (5, .int (nI wh))] [.int (nI (σ.2.1 c 2))] (mm I J t) _
    refine zV_goto (tgt := 19) dX7_worthSo_10 rfl ?_
    refine zV_istore (lv' := [(0, .ref 76), (1, .int (nI c)), (2, .int (nI kd)), (3, .int (nI sd)), (4, .int (nI tu)), (5, .int (nI wh)), (6, .int (nI (σ.2.1 c 2)))]) dX7_worthSo_19 rfl (by decide) rfl ?_
    refine zV_iload_n dX7_worthSo_21 rfl 2 rfl rfl ?_
    refine zN_tbl (lo' := 1) (hi' := 6) (td := 112) dX7_worthSo_22 rfl rfl (by omega) rfl (fun h22 => ?_) (fun i hi1 hi2 h22 => ?_)
    · refine zV_iload dX7_worthSo_112 rfl 6 rfl ?_
      exact zV_ireturn dX7_worthSo_114 rfl rfl (⟨congrArg (fun x => some (Value.int (nI x))) (by unfold k_wIf k_face; (repeat' split) <;> omega), rfl⟩)
    · rcases (show i = 1 ∨ i = 2 ∨ i = 3 ∨ i = 4 ∨ i = 5 ∨ i = 6 by omega) with rfl | rfl | rfl | rfl | rfl | rfl
      · refine ⟨_, 60, rfl, rfl, ?_⟩
        refine zV_iload dX7_worthSo_60 rfl 6 rfl ?_
        refine zV_iconst (v := (nI 1)) dX7_worthSo_62 rfl rfl ?_
        refine zA_iadd (z := (nI ((σ.2.1 c 2) + 1))) dX7_worthSo_63 rfl  (nI_add _ _) ?_
        exact zV_ireturn dX7_worthSo_64 rfl rfl (⟨congrArg (fun x => some (Value.int (nI x))) (by unfold k_wIf k_face; (repeat' split) <;> omega), rfl⟩)
      · refine ⟨_, 112, rfl, rfl, ?_⟩
        refine zV_iload dX7_worthSo_112 rfl 6 rfl ?_
        exact zV_ireturn dX7_worthSo_114 rfl rfl (⟨congrArg (fun x => some (Value.int (nI x))) (by unfold k_wIf k_face; (repeat' split) <;> omega), rfl⟩)
      · refine ⟨_, 65, rfl, rfl, ?_⟩
        refine zV_aload_n dX7_worthSo_65 rfl 0 rfl rfl ?_
        refine zV_iload_n dX7_worthSo_66 rfl 1 rfl rfl ?_
        refine zV_iconst (v := (nI 2)) dX7_worthSo_67 rfl rfl ?_
        refine zV_callV (E' := eX7_coinIs (g_rmv 1)) (av := [.int (nI c), .int (nI 2)]) (st := []) (b := 76) dX7_worthSo_68 rfl (k_RX7_99 _) rfl ⟨by decide, by decide⟩ ⟨by decide, by decide⟩ (Or.inl rfl) rfl (Nat.le_of_ble_eq_true rfl) rfl rfl rfl (m_coinIs (c := c) (f := 2) hR hW hc (by decide)) (fun r68 M68 z => ?_)
        obtain ⟨rfl, rfl⟩ := z
        show zV G (eX7_worthSo (g_rmv 2)) (0, 0) 71 [(0, .ref 76), (1, .int (nI c)), (2, .int (nI kd)), (3, .int (nI sd)), (4, .int (nI tu)), (5, .int (nI wh)), (6, .int (nI (σ.2.1 c 2)))] [.int (nI (σ.2.1 c 2))] (mm I J t) _
        exact zV_ireturn dX7_worthSo_71 rfl rfl (⟨congrArg (fun x => some (Value.int (nI x))) (by unfold k_wIf k_face; (repeat' split) <;> omega), rfl⟩)
      · refine ⟨_, 60, rfl, rfl, ?_⟩
        refine zV_iload dX7_worthSo_60 rfl 6 rfl ?_
        refine zV_iconst (v := (nI 1)) dX7_worthSo_62 rfl rfl ?_
        refine zA_iadd (z := (nI ((σ.2.1 c 2) + 1))) dX7_worthSo_63 rfl  (nI_add _ _) ?_
        exact zV_ireturn dX7_worthSo_64 rfl rfl (⟨congrArg (fun x => some (Value.int (nI x))) (by unfold k_wIf k_face; (repeat' split) <;> omega), rfl⟩)
      · refine ⟨_, 72, rfl, rfl, ?_⟩
        refine zV_iconst (v := (nI 0)) dX7_worthSo_72 rfl rfl ?_
        refine zV_iload dX7_worthSo_73 rfl 6 rfl ?_
        refine zV_iload dX7_worthSo_75 rfl 4 rfl ?_
        refine zA_isub (z := ((nI (σ.2.1 c 2)) - (nI tu))) dX7_worthSo_77 rfl  (rfl) ?_
        refine zV_callS (E' := eJ9_max_7cf53 (g_rmv 0)) (av := [.int (nI 0), .int ((nI (σ.2.1 c 2)) - (nI tu))]) (st := []) dX7_worthSo_78 rfl (k_RX7_102 _) rfl ⟨by decide, by decide⟩ ⟨by decide, by decide⟩ (Or.inl rfl) rfl (Nat.le_of_ble_eq_true rfl) (c_max0 (a := (σ.2.1 c 2)) (b := tu) (by omega) (by omega)) (fun r78 M78 z => ?_)
        obtain ⟨rfl, rfl⟩ := z
        show zV G (eX7_worthSo (g_rmv 2)) (0, 0) 81 [(0, .ref 76), (1, .int (nI c)), (2, .int (nI kd)), (3, .int (nI sd)), (4, .int (nI tu)), (5, .int (nI wh)), (6, .int (nI (σ.2.1 c 2)))] [.int (nI ((σ.2.1 c 2) - tu))] (mm I J t) _
        exact zV_ireturn dX7_worthSo_81 rfl rfl (⟨congrArg (fun x => some (Value.int (nI x))) (by unfold k_wIf k_face; (repeat' split) <;> omega), rfl⟩)
      · refine ⟨_, 82, rfl, rfl, ?_⟩
        refine zV_iload dX7_worthSo_82 rfl 5 rfl ?_
        refine zV_iconst (v := (nI 3)) dX7_worthSo_84 rfl rfl ?_
        refine zN_icmp_ne (tgt := 100) dX7_worthSo_85 rfl rfl (by omega) (by omega) (fun h85 => ?_) (fun h85 => ?_)
        · refine zV_iconst (v := (nI 0)) dX7_worthSo_100 rfl rfl ?_
          refine zV_iload dX7_worthSo_101 rfl 6 rfl ?_
          refine zV_iload dX7_worthSo_103 rfl 4 rfl ?_
          refine zA_isub (z := ((nI (σ.2.1 c 2)) - (nI tu))) dX7_worthSo_105 rfl  (rfl) ?_
          refine zV_callS (E' := eJ9_max_7cf53 (g_rmv 0)) (av := [.int (nI 0), .int ((nI (σ.2.1 c 2)) - (nI tu))]) (st := []) dX7_worthSo_106 rfl (k_RX7_102 _) rfl ⟨by decide, by decide⟩ ⟨by decide, by decide⟩ (Or.inl rfl) rfl (Nat.le_of_ble_eq_true rfl) (c_max0 (a := (σ.2.1 c 2)) (b := tu) (by omega) (by omega)) (fun r106 M106 z => ?_)
          obtain ⟨rfl, rfl⟩ := z
          show zV G (eX7_worthSo (g_rmv 2)) (0, 0) 109 [(0, .ref 76), (1, .int (nI c)), (2, .int (nI kd)), (3, .int (nI sd)), (4, .int (nI tu)), (5, .int (nI wh)), (6, .int (nI (σ.2.1 c 2)))] [.int (nI ((σ.2.1 c 2) - tu))] (mm I J t) _
          refine zV_iconst (v := (nI 2)) dX7_worthSo_109 rfl rfl ?_
          refine zA_idiv (z := (nI (((σ.2.1 c 2) - tu) / 2))) dX7_worthSo_110 rfl (by decide) (pk_div (by omega) (by omega) (by omega)) ?_
          exact zV_ireturn dX7_worthSo_111 rfl rfl (⟨congrArg (fun x => some (Value.int (nI x))) (by unfold k_wIf k_face; (repeat' split) <;> omega), rfl⟩)
        · refine zV_iconst (v := (nI 0)) dX7_worthSo_88 rfl rfl ?_
          refine zV_iload dX7_worthSo_89 rfl 6 rfl ?_
          refine zV_iload dX7_worthSo_91 rfl 4 rfl ?_
          refine zA_isub (z := ((nI (σ.2.1 c 2)) - (nI tu))) dX7_worthSo_93 rfl  (rfl) ?_
          refine zV_callS (E' := eJ9_max_7cf53 (g_rmv 0)) (av := [.int (nI 0), .int ((nI (σ.2.1 c 2)) - (nI tu))]) (st := []) dX7_worthSo_94 rfl (k_RX7_102 _) rfl ⟨by decide, by decide⟩ ⟨by decide, by decide⟩ (Or.inl rfl) rfl (Nat.le_of_ble_eq_true rfl) (c_max0 (a := (σ.2.1 c 2)) (b := tu) (by omega) (by omega)) (fun r94 M94 z => ?_)
          obtain ⟨rfl, rfl⟩ := z
          show zV G (eX7_worthSo (g_rmv 2)) (0, 0) 97 [(0, .ref 76), (1, .int (nI c)), (2, .int (nI kd)), (3, .int (nI sd)), (4, .int (nI tu)), (5, .int (nI wh)), (6, .int (nI (σ.2.1 c 2)))] [.int (nI ((σ.2.1 c 2) - tu))] (mm I J t) _
          refine zV_goto (tgt := 111) dX7_worthSo_97 rfl ?_
          exact zV_ireturn dX7_worthSo_111 rfl rfl (⟨congrArg (fun x => some (Value.int (nI x))) (by unfold k_wIf k_face; (repeat' split) <;> omega), rfl⟩)

set_option maxRecDepth 100000 in
theorem m_worth {G : mG} {I : Nat → Nat → Int32} {J : Nat → Nat → Int64} {t : Nat} {B : Nat} {σ : aL} (hR : absR I 77 σ) (hW : wfL B σ) {c : Nat} (hc : c < σ.1) : zC G yX7_worth (eX7_worth (g_rmv 3)) [.ref 76, .int (nI c)] (mm I J t) (fun r M => r = some (.int (nI (k_now (σ.2.1 c)))) ∧ M = mm I J t) := by
  refine zC_of (by decide +kernel) rfl (by decide) (Nat.le_of_ble_eq_true rfl) ?_
  have n10 := hW.1
  have w := hW.2.1 c hc
  obtain ⟨w0, w1, w2, w3, w4, w5, w6⟩ := id w
  show zV G (eX7_worth (g_rmv 3)) (0, 0) 0 [(0, .ref 76), (1, .int (nI c))] [] (mm I J t) _
  refine zV_aload_n dX7_worth_0 rfl 0 rfl rfl ?_
  refine zV_iload_n dX7_worth_1 rfl 1 rfl rfl ?_
  refine zV_aload_n dX7_worth_2 rfl 0 rfl rfl ?_
  refine zV_iload_n dX7_worth_3 rfl 1 rfl rfl ?_
  refine zV_iconst (v := (nI 0)) dX7_worth_4 rfl rfl ?_
  refine zV_callV (E' := eX7_coinIs (g_rmv 1)) (av := [.int (nI c), .int (nI 0)]) (st := [.int (nI c), .ref 76]) (b := 76) dX7_worth_5 rfl (k_RX7_99 _) rfl ⟨by decide, by decide⟩ ⟨by decide, by decide⟩ (Or.inl rfl) rfl (Nat.le_of_ble_eq_true rfl) rfl rfl rfl (m_coinIs (c := c) (f := 0) hR hW hc (by decide)) (fun r5 M5 z => ?_)
  obtain ⟨rfl, rfl⟩ := z
  show zV G (eX7_worth (g_rmv 3)) (0, 0) 8 [(0, .ref 76), (1, .int (nI c))] [.int (nI (σ.2.1 c 0)), .int (nI c), .ref 76] (mm I J t) _
  refine zV_aload_n dX7_worth_8 rfl 0 rfl rfl ?_
  refine zV_iload_n dX7_worth_9 rfl 1 rfl rfl ?_
  refine zV_iconst (v := (nI 4)) dX7_worth_10 rfl rfl ?_
  refine zV_callV (E' := eX7_coinIs (g_rmv 1)) (av := [.int (nI c), .int (nI 4)]) (st := [.int (nI (σ.2.1 c 0)), .int (nI c), .ref 76]) (b := 76) dX7_worth_11 rfl (k_RX7_99 _) rfl ⟨by decide, by decide⟩ ⟨by decide, by decide⟩ (Or.inl rfl) rfl (Nat.le_of_ble_eq_true rfl) rfl rfl rfl (m_coinIs (c := c) (f := 4) hR hW hc (by decide)) (fun r11 M11 z => ?_)
  obtain ⟨rfl, rfl⟩ := z
  show zV G (eX7_worth (g_rmv 3)) (0, 0) 14 [(0, .ref 76), (1, .int (nI c))] [.int (nI (σ.2.1 c 4)), .int (nI (σ.2.1 c 0)), .int (nI c), .ref 76] (mm I J t) _
  refine zV_aload_n dX7_worth_14 rfl 0 rfl rfl ?_
  refine zV_iload_n dX7_worth_15 rfl 1 rfl rfl ?_
  refine zV_iconst (v := (nI 5)) dX7_worth_16 rfl rfl ?_
  refine zV_callV (E' := eX7_coinIs (g_rmv 1)) (av := [.int (nI c), .int (nI 5)]) (st := [.int (nI (σ.2.1 c 4)), .int (nI (σ.2.1 c 0)), .int (nI c), .ref 76]) (b := 76) dX7_worth_17 rfl (k_RX7_99 _) rfl ⟨by decide, by decide⟩ ⟨by decide, by decide⟩ (Or.inl rfl) rfl (Nat.le_of_ble_eq_true rfl) rfl rfl rfl (m_coinIs (c := c) (f := 5) hR hW hc (by decide)) (fun r17 M17 z => ?_)
  obtain ⟨rfl, rfl⟩ := z
  show zV G (eX7_worth (g_rmv 3)) (0, 0) 20 [(0, .ref 76), (1, .int (nI c))] [.int (nI (σ.2.1 c 5)), .int (nI (σ.2.1 c 4)), .int (nI (σ.2.1 c 0)), .int (nI c), .ref 76] (mm I J t) _
  refine zV_aload_n dX7_worth_20 rfl 0 rfl rfl ?_
  refine zV_iload_n dX7_worth_21 rfl 1 rfl rfl ?_
  refine zV_iconst (v := (nI 1)) dX7_worth_22 rfl rfl ?_
  refine zV_callV (E' := eX7_coinIs (g_rmv 1)) (av := [.int (nI c), .int (nI 1)]) (st := [.int (nI (σ.2.1 c 5)), .int (nI (σ.2.1 c 4)), .int (nI (σ.2.1 c 0)), .int (nI c), .ref 76]) (b := 76) dX7_worth_23 rfl (k_RX7_99 _) rfl ⟨by decide, by decide⟩ ⟨by decide, by decide⟩ (Or.inl rfl) rfl (Nat.le_of_ble_eq_true rfl) rfl rfl rfl (m_coinIs (c := c) (f := 1) hR hW hc (by decide)) (fun r23 M23 z => ?_)
  obtain ⟨rfl, rfl⟩ := z
  show zV G (eX7_worth (g_rmv 3)) (0, 0) 26 [(0, .ref 76), (1, .int (nI c))] [.int (nI (σ.2.1 c 1)), .int (nI (σ.2.1 c 5)), .int (nI (σ.2.1 c 4)), .int (nI (σ.2.1 c 0)), .int (nI c), .ref 76] (mm I J t) _
  refine zV_callV (E' := eX7_worthSo (g_rmv 2)) (av := [.int (nI c), .int (nI (σ.2.1 c 0)), .int (nI (σ.2.1 c 4)), .int (nI (σ.2.1 c 5)), .int (nI (σ.2.1 c 1))]) (st := []) (b := 76) dX7_worth_26 rfl (k_RX7_107 _) rfl ⟨by decide, by decide⟩ ⟨by decide, by decide⟩ (Or.inl rfl) rfl (Nat.le_of_ble_eq_true rfl) rfl rfl rfl (m_worthSo (c := c) (kd := (σ.2.1 c 0)) (sd := (σ.2.1 c 4)) (tu := (σ.2.1 c 5)) (wh := (σ.2.1 c 1)) hR hW hc (by omega) (by omega) (by omega) (by omega)) (fun r26 M26 z => ?_)
  obtain ⟨rfl, rfl⟩ := z
  show zV G (eX7_worth (g_rmv 3)) (0, 0) 29 [(0, .ref 76), (1, .int (nI c))] [.int (nI (k_wIf (σ.2.1 c) (σ.2.1 c 0) (σ.2.1 c 4) (σ.2.1 c 5) (σ.2.1 c 1)))] (mm I J t) _
  exact zV_ireturn dX7_worth_29 rfl rfl (⟨rfl, rfl⟩)

set_option maxRecDepth 100000 in
theorem m_worthOth {G : mG} {I : Nat → Nat → Int32} {J : Nat → Nat → Int64} {t : Nat} {B : Nat} {σ : aL} (hR : absR I 77 σ) (hW : wfL B σ) {c : Nat} (hc : c < σ.1) : zC G yX7_worthOtherwise (eX7_worthOtherwise (g_rmv 3)) [.ref 76, .int (nI c)] (mm I J t) (fun r M => r = some (.int (nI (k_oth (σ.2.1 c)))) ∧ M = mm I J t) := by
  refine zC_of (by decide +kernel) rfl (by decide) (Nat.le_of_ble_eq_true rfl) ?_
  have n10 := hW.1
  have w := hW.2.1 c hc
  obtain ⟨w0, w1, w2, w3, w4, w5, w6⟩ := id w
  show zV G (eX7_worthOtherwise (g_rmv 3)) (0, 0) 0 [(0, .ref 76), (1, .int (nI c))] [] (mm I J t) _
  refine zV_aload_n dX7_worthOtherwise_0 rfl 0 rfl rfl ?_
  refine zV_iload_n dX7_worthOtherwise_1 rfl 1 rfl rfl ?_
  refine zV_aload_n dX7_worthOtherwise_2 rfl 0 rfl rfl ?_
  refine zV_iload_n dX7_worthOtherwise_3 rfl 1 rfl rfl ?_
  refine zV_iconst (v := (nI 0)) dX7_worthOtherwise_4 rfl rfl ?_
  refine zV_callV (E' := eX7_coinIs (g_rmv 1)) (av := [.int (nI c), .int (nI 0)]) (st := [.int (nI c), .ref 76]) (b := 76) dX7_worthOtherwise_5 rfl (k_RX7_99 _) rfl ⟨by decide, by decide⟩ ⟨by decide, by decide⟩ (Or.inl rfl) rfl (Nat.le_of_ble_eq_true rfl) rfl rfl rfl (m_coinIs (c := c) (f := 0) hR hW hc (by decide)) (fun r5 M5 z => ?_)
  obtain ⟨rfl, rfl⟩ := z
  show zV G (eX7_worthOtherwise (g_rmv 3)) (0, 0) 8 [(0, .ref 76), (1, .int (nI c))] [.int (nI (σ.2.1 c 0)), .int (nI c), .ref 76] (mm I J t) _
  refine zV_iconst (v := (nI 1)) dX7_worthOtherwise_8 rfl rfl ?_
  refine zV_aload_n dX7_worthOtherwise_9 rfl 0 rfl rfl ?_
  refine zV_iload_n dX7_worthOtherwise_10 rfl 1 rfl rfl ?_
  refine zV_iconst (v := (nI 4)) dX7_worthOtherwise_11 rfl rfl ?_
  refine zV_callV (E' := eX7_coinIs (g_rmv 1)) (av := [.int (nI c), .int (nI 4)]) (st := [.int (nI 1), .int (nI (σ.2.1 c 0)), .int (nI c), .ref 76]) (b := 76) dX7_worthOtherwise_12 rfl (k_RX7_99 _) rfl ⟨by decide, by decide⟩ ⟨by decide, by decide⟩ (Or.inl rfl) rfl (Nat.le_of_ble_eq_true rfl) rfl rfl rfl (m_coinIs (c := c) (f := 4) hR hW hc (by decide)) (fun r12 M12 z => ?_)
  obtain ⟨rfl, rfl⟩ := z
  show zV G (eX7_worthOtherwise (g_rmv 3)) (0, 0) 15 [(0, .ref 76), (1, .int (nI c))] [.int (nI (σ.2.1 c 4)), .int (nI 1), .int (nI (σ.2.1 c 0)), .int (nI c), .ref 76] (mm I J t) _
  refine zA_isub (z := (nI (1 - (σ.2.1 c 4)))) dX7_worthOtherwise_15 rfl  (pk_sub (by omega)) ?_
  refine zV_aload_n dX7_worthOtherwise_16 rfl 0 rfl rfl ?_
  refine zV_iload_n dX7_worthOtherwise_17 rfl 1 rfl rfl ?_
  refine zV_iconst (v := (nI 5)) dX7_worthOtherwise_18 rfl rfl ?_
  refine zV_callV (E' := eX7_coinIs (g_rmv 1)) (av := [.int (nI c), .int (nI 5)]) (st := [.int (nI (1 - (σ.2.1 c 4))), .int (nI (σ.2.1 c 0)), .int (nI c), .ref 76]) (b := 76) dX7_worthOtherwise_19 rfl (k_RX7_99 _) rfl ⟨by decide, by decide⟩ ⟨by decide, by decide⟩ (Or.inl rfl) rfl (Nat.le_of_ble_eq_true rfl) rfl rfl rfl (m_coinIs (c := c) (f := 5) hR hW hc (by decide)) (fun r19 M19 z => ?_)
  obtain ⟨rfl, rfl⟩ := z
  show zV G (eX7_worthOtherwise (g_rmv 3)) (0, 0) 22 [(0, .ref 76), (1, .int (nI c))] [.int (nI (σ.2.1 c 5)), .int (nI (1 - (σ.2.1 c 4))), .int (nI (σ.2.1 c 0)), .int (nI c), .ref 76] (mm I J t) _
  refine zV_aload_n dX7_worthOtherwise_22 rfl 0 rfl rfl ?_
  refine zV_iload_n dX7_worthOtherwise_23 rfl 1 rfl rfl ?_
  refine zV_iconst (v := (nI 1)) dX7_worthOtherwise_24 rfl rfl ?_
  refine zV_callV (E' := eX7_coinIs (g_rmv 1)) (av := [.int (nI c), .int (nI 1)]) (st := [.int (nI (σ.2.1 c 5)), .int (nI (1 - (σ.2.1 c 4))), .int (nI (σ.2.1 c 0)), .int (nI c), .ref 76]) (b := 76) dX7_worthOtherwise_25 rfl (k_RX7_99 _) rfl ⟨by decide, by decide⟩ ⟨by decide, by decide⟩ (Or.inl rfl) rfl (Nat.le_of_ble_eq_true rfl) rfl rfl rfl (m_coinIs (c := c) (f := 1) hR hW hc (by decide)) (fun r25 M25 z => ?_)
  obtain ⟨rfl, rfl⟩ := z
  show zV G (eX7_worthOtherwise (g_rmv 3)) (0, 0) 28 [(0, .ref 76), (1, .int (nI c))] [.int (nI (σ.2.1 c 1)), .int (nI (σ.2.1 c 5)), .int (nI (1 - (σ.2.1 c 4))), .int (nI (σ.2.1 c 0)), .int (nI c), .ref 76] (mm I J t) _
  refine zV_callV (E' := eX7_worthSo (g_rmv 2)) (av := [.int (nI c), .int (nI (σ.2.1 c 0)), .int (nI (1 - (σ.2.1 c 4))), .int (nI (σ.2.1 c 5)), .int (nI (σ.2.1 c 1))]) (st := []) (b := 76) dX7_worthOtherwise_28 rfl (k_RX7_107 _) rfl ⟨by decide, by decide⟩ ⟨by decide, by decide⟩ (Or.inl rfl) rfl (Nat.le_of_ble_eq_true rfl) rfl rfl rfl (m_worthSo (c := c) (kd := (σ.2.1 c 0)) (sd := (1 - (σ.2.1 c 4))) (tu := (σ.2.1 c 5)) (wh := (σ.2.1 c 1)) hR hW hc (by omega) (by omega) (by omega) (by omega)) (fun r28 M28 z => ?_)
  obtain ⟨rfl, rfl⟩ := z
  show zV G (eX7_worthOtherwise (g_rmv 3)) (0, 0) 31 [(0, .ref 76), (1, .int (nI c))] [.int (nI (k_wIf (σ.2.1 c) (σ.2.1 c 0) (1 - (σ.2.1 c 4)) (σ.2.1 c 5) (σ.2.1 c 1)))] (mm I J t) _
  exact zV_ireturn dX7_worthOtherwise_31 rfl rfl (⟨rfl, rfl⟩)

set_option maxRecDepth 100000 in
theorem m_lies {G : mG} {I : Nat → Nat → Int32} {J : Nat → Nat → Int64} {t : Nat} {B : Nat} {σ : aL} (hR : absR I 77 σ) (hW : wfL B σ) {c : Nat} (hc : c < σ.1) : zC G yX7_liesThen (eX7_liesThen (g_rmv 2)) [.ref 76, .int (nI c)] (mm I J t) (fun r M => r = some (.int (nI (k_lies (σ.2.1 c)))) ∧ M = mm I J t) := by
  refine zC_of (by decide +kernel) rfl (by decide) (Nat.le_of_ble_eq_true rfl) ?_
  have n10 := hW.1
  have w := hW.2.1 c hc
  obtain ⟨w0, w1, w2, w3, w4, w5, w6⟩ := id w
  show zV G (eX7_liesThen (g_rmv 2)) (0, 0) 0 [(0, .ref 76), (1, .int (nI c))] [] (mm I J t) _
  refine zV_aload_n dX7_liesThen_0 rfl 0 rfl rfl ?_
  refine zV_iload_n dX7_liesThen_1 rfl 1 rfl rfl ?_
  refine zV_iconst (v := (nI 0)) dX7_liesThen_2 rfl rfl ?_
  refine zV_callV (E' := eX7_coinIs (g_rmv 1)) (av := [.int (nI c), .int (nI 0)]) (st := []) (b := 76) dX7_liesThen_3 rfl (k_RX7_99 _) rfl ⟨by decide, by decide⟩ ⟨by decide, by decide⟩ (Or.inl rfl) rfl (Nat.le_of_ble_eq_true rfl) rfl rfl rfl (m_coinIs (c := c) (f := 0) hR hW hc (by decide)) (fun r3 M3 z => ?_)
  obtain ⟨rfl, rfl⟩ := z
  show zV G (eX7_liesThen (g_rmv 2)) (0, 0) 6 [(0, .ref 76), (1, .int (nI c))] [.int (nI (σ.2.1 c 0))] (mm I J t) _
  refine zV_istore_n (lv' := [(0, .ref 76), (1, .int (nI c)), (2, .int (nI (σ.2.1 c 0)))]) dX7_liesThen_6 rfl rfl (by decide) rfl ?_
  refine zV_iload_n dX7_liesThen_7 rfl 2 rfl rfl ?_
  refine zV_iconst (v := (nI 2)) dX7_liesThen_8 rfl rfl ?_
  refine zV_callS (E' := eX7_isUnder (g_rmv 1)) (av := [.int (nI (σ.2.1 c 0)), .int (nI 2)]) (st := []) dX7_liesThen_9 rfl (k_RX7_110 _) rfl ⟨by decide, by decide⟩ ⟨by decide, by decide⟩ (Or.inl rfl) rfl (Nat.le_of_ble_eq_true rfl) (m_isUnder (kd := (σ.2.1 c 0)) (w := 2) (by omega) (by omega)) (fun r9 M9 z => ?_)
  obtain ⟨rfl, rfl⟩ := z
  show zV G (eX7_liesThen (g_rmv 2)) (0, 0) 12 [(0, .ref 76), (1, .int (nI c)), (2, .int (nI (σ.2.1 c 0)))] [.int (b2 (k_isA (σ.2.1 c 0) 2 = true))] (mm I J t) _
  refine zB_if_ne (tgt := 20) dX7_liesThen_12 rfl rfl  (fun h12 => ?_) (fun h12 => ?_)
  · refine zV_aload_n dX7_liesThen_20 rfl 0 rfl rfl ?_
    refine zV_iload_n dX7_liesThen_21 rfl 1 rfl rfl ?_
    refine zV_iconst (v := (nI 4)) dX7_liesThen_22 rfl rfl ?_
    refine zV_callV (E' := eX7_coinIs (g_rmv 1)) (av := [.int (nI c), .int (nI 4)]) (st := []) (b := 76) dX7_liesThen_23 rfl (k_RX7_99 _) rfl ⟨by decide, by decide⟩ ⟨by decide, by decide⟩ (Or.inl rfl) rfl (Nat.le_of_ble_eq_true rfl) rfl rfl rfl (m_coinIs (c := c) (f := 4) hR hW hc (by decide)) (fun r23 M23 z => ?_)
    obtain ⟨rfl, rfl⟩ := z
    show zV G (eX7_liesThen (g_rmv 2)) (0, 0) 26 [(0, .ref 76), (1, .int (nI c)), (2, .int (nI (σ.2.1 c 0)))] [.int (nI (σ.2.1 c 4))] (mm I J t) _
    refine zV_goto (tgt := 37) dX7_liesThen_26 rfl ?_
    exact zV_ireturn dX7_liesThen_37 rfl rfl (⟨congrArg (fun x => some (Value.int (nI x))) (by unfold k_lies; (try simp only [k_isA2] at *); (repeat' split) <;> omega), rfl⟩)
  · refine zV_iload_n dX7_liesThen_15 rfl 2 rfl rfl ?_
    refine zV_iconst (v := (nI 4)) dX7_liesThen_16 rfl rfl ?_
    refine zN_icmp_ne (tgt := 29) dX7_liesThen_17 rfl rfl (by omega) (by omega) (fun h17 => ?_) (fun h17 => ?_)
    · refine zV_iconst (v := (nI 1)) dX7_liesThen_29 rfl rfl ?_
      refine zV_aload_n dX7_liesThen_30 rfl 0 rfl rfl ?_
      refine zV_iload_n dX7_liesThen_31 rfl 1 rfl rfl ?_
      refine zV_iconst (v := (nI 4)) dX7_liesThen_32 rfl rfl ?_
      refine zV_callV (E' := eX7_coinIs (g_rmv 1)) (av := [.int (nI c), .int (nI 4)]) (st := [.int (nI 1)]) (b := 76) dX7_liesThen_33 rfl (k_RX7_99 _) rfl ⟨by decide, by decide⟩ ⟨by decide, by decide⟩ (Or.inl rfl) rfl (Nat.le_of_ble_eq_true rfl) rfl rfl rfl (m_coinIs (c := c) (f := 4) hR hW hc (by decide)) (fun r33 M33 z => ?_)
      obtain ⟨rfl, rfl⟩ := z
      show zV G (eX7_liesThen (g_rmv 2)) (0, 0) 36 [(0, .ref 76), (1, .int (nI c)), (2, .int (nI (σ.2.1 c 0)))] [.int (nI (σ.2.1 c 4)), .int (nI 1)] (mm I J t) _
      refine zA_isub (z := (nI (1 - (σ.2.1 c 4)))) dX7_liesThen_36 rfl  (pk_sub (by omega)) ?_
      exact zV_ireturn dX7_liesThen_37 rfl rfl (⟨congrArg (fun x => some (Value.int (nI x))) (by unfold k_lies; (try simp only [k_isA2] at *); (repeat' split) <;> omega), rfl⟩)
    · refine zV_aload_n dX7_liesThen_20 rfl 0 rfl rfl ?_
      refine zV_iload_n dX7_liesThen_21 rfl 1 rfl rfl ?_
      refine zV_iconst (v := (nI 4)) dX7_liesThen_22 rfl rfl ?_
      refine zV_callV (E' := eX7_coinIs (g_rmv 1)) (av := [.int (nI c), .int (nI 4)]) (st := []) (b := 76) dX7_liesThen_23 rfl (k_RX7_99 _) rfl ⟨by decide, by decide⟩ ⟨by decide, by decide⟩ (Or.inl rfl) rfl (Nat.le_of_ble_eq_true rfl) rfl rfl rfl (m_coinIs (c := c) (f := 4) hR hW hc (by decide)) (fun r23 M23 z => ?_)
      obtain ⟨rfl, rfl⟩ := z
      show zV G (eX7_liesThen (g_rmv 2)) (0, 0) 26 [(0, .ref 76), (1, .int (nI c)), (2, .int (nI (σ.2.1 c 0)))] [.int (nI (σ.2.1 c 4))] (mm I J t) _
      refine zV_goto (tgt := 37) dX7_liesThen_26 rfl ?_
      exact zV_ireturn dX7_liesThen_37 rfl rfl (⟨congrArg (fun x => some (Value.int (nI x))) (by unfold k_lies; (try simp only [k_isA2] at *); (repeat' split) <;> omega), rfl⟩)

set_option maxRecDepth 100000 in
theorem m_turns {G : mG} {I : Nat → Nat → Int32} {J : Nat → Nat → Int64} {t : Nat} {B : Nat} {σ : aL} (hR : absR I 77 σ) (hW : wfL B σ) {c : Nat} (hc : c < σ.1) : zC G yX7_turnsThen (eX7_turnsThen (g_rmv 2)) [.ref 76, .int (nI c)] (mm I J t) (fun r M => r = some (.int (nI (k_turns (σ.2.1 c)))) ∧ M = mm I J t) := by
  refine zC_of (by decide +kernel) rfl (by decide) (Nat.le_of_ble_eq_true rfl) ?_
  have n10 := hW.1
  have w := hW.2.1 c hc
  obtain ⟨w0, w1, w2, w3, w4, w5, w6⟩ := id w
  show zV G (eX7_turnsThen (g_rmv 2)) (0, 0) 0 [(0, .ref 76), (1, .int (nI c))] [] (mm I J t) _
  refine zV_aload_n dX7_turnsThen_0 rfl 0 rfl rfl ?_
  refine zV_iload_n dX7_turnsThen_1 rfl 1 rfl rfl ?_
  refine zV_iconst (v := (nI 0)) dX7_turnsThen_2 rfl rfl ?_
  refine zV_callV (E' := eX7_coinIs (g_rmv 1)) (av := [.int (nI c), .int (nI 0)]) (st := []) (b := 76) dX7_turnsThen_3 rfl (k_RX7_99 _) rfl ⟨by decide, by decide⟩ ⟨by decide, by decide⟩ (Or.inl rfl) rfl (Nat.le_of_ble_eq_true rfl) rfl rfl rfl (m_coinIs (c := c) (f := 0) hR hW hc (by decide)) (fun r3 M3 z => ?_)
  obtain ⟨rfl, rfl⟩ := z
  show zV G (eX7_turnsThen (g_rmv 2)) (0, 0) 6 [(0, .ref 76), (1, .int (nI c))] [.int (nI (σ.2.1 c 0))] (mm I J t) _
  refine zV_istore_n (lv' := [(0, .ref 76), (1, .int (nI c)), (2, .int (nI (σ.2.1 c 0)))]) dX7_turnsThen_6 rfl rfl (by decide) rfl ?_
  refine zV_aload_n dX7_turnsThen_7 rfl 0 rfl rfl ?_
  refine zV_iload_n dX7_turnsThen_8 rfl 1 rfl rfl ?_
  refine zV_iconst (v := (nI 5)) dX7_turnsThen_9 rfl rfl ?_
  refine zV_callV (E' := eX7_coinIs (g_rmv 1)) (av := [.int (nI c), .int (nI 5)]) (st := []) (b := 76) dX7_turnsThen_10 rfl (k_RX7_99 _) rfl ⟨by decide, by decide⟩ ⟨by decide, by decide⟩ (Or.inl rfl) rfl (Nat.le_of_ble_eq_true rfl) rfl rfl rfl (m_coinIs (c := c) (f := 5) hR hW hc (by decide)) (fun r10 M10 z => ?_)
  obtain ⟨rfl, rfl⟩ := z
  show zV G (eX7_turnsThen (g_rmv 2)) (0, 0) 13 [(0, .ref 76), (1, .int (nI c)), (2, .int (nI (σ.2.1 c 0)))] [.int (nI (σ.2.1 c 5))] (mm I J t) _
  refine zV_iload_n dX7_turnsThen_13 rfl 2 rfl rfl ?_
  refine zV_iconst (v := (nI 2)) dX7_turnsThen_14 rfl rfl ?_
  refine zV_callS (E' := eX7_isUnder (g_rmv 1)) (av := [.int (nI (σ.2.1 c 0)), .int (nI 2)]) (st := [.int (nI (σ.2.1 c 5))]) dX7_turnsThen_15 rfl (k_RX7_110 _) rfl ⟨by decide, by decide⟩ ⟨by decide, by decide⟩ (Or.inl rfl) rfl (Nat.le_of_ble_eq_true rfl) (m_isUnder (kd := (σ.2.1 c 0)) (w := 2) (by omega) (by omega)) (fun r15 M15 z => ?_)
  obtain ⟨rfl, rfl⟩ := z
  show zV G (eX7_turnsThen (g_rmv 2)) (0, 0) 18 [(0, .ref 76), (1, .int (nI c)), (2, .int (nI (σ.2.1 c 0)))] [.int (b2 (k_isA (σ.2.1 c 0) 2 = true)), .int (nI (σ.2.1 c 5))] (mm I J t) _
  refine zB_if_eq (tgt := 25) dX7_turnsThen_18 rfl rfl  (fun h18 => ?_) (fun h18 => ?_)
  · refine zV_iload_n dX7_turnsThen_25 rfl 2 rfl rfl ?_
    refine zV_iconst (v := (nI 4)) dX7_turnsThen_26 rfl rfl ?_
    refine zN_icmp_ne (tgt := 34) dX7_turnsThen_27 rfl rfl (by omega) (by omega) (fun h27 => ?_) (fun h27 => ?_)
    · refine zV_iconst (v := (nI 1)) dX7_turnsThen_34 rfl rfl ?_
      refine zA_iadd (z := (nI ((σ.2.1 c 5) + 1))) dX7_turnsThen_35 rfl  (nI_add _ _) ?_
      exact zV_ireturn dX7_turnsThen_36 rfl rfl (⟨congrArg (fun x => some (Value.int (nI x))) (by unfold k_turns; (try simp only [k_isA2] at *); (repeat' split) <;> omega), rfl⟩)
    · refine zV_iconst (v := (nI 2)) dX7_turnsThen_30 rfl rfl ?_
      refine zV_goto (tgt := 35) dX7_turnsThen_31 rfl ?_
      refine zA_iadd (z := (nI ((σ.2.1 c 5) + 2))) dX7_turnsThen_35 rfl  (nI_add _ _) ?_
      exact zV_ireturn dX7_turnsThen_36 rfl rfl (⟨congrArg (fun x => some (Value.int (nI x))) (by unfold k_turns; (try simp only [k_isA2] at *); (repeat' split) <;> omega), rfl⟩)
  · refine zV_iconst (v := (nI 0)) dX7_turnsThen_21 rfl rfl ?_
    refine zV_goto (tgt := 35) dX7_turnsThen_22 rfl ?_
    refine zA_iadd (z := (nI ((σ.2.1 c 5) + 0))) dX7_turnsThen_35 rfl  (nI_add _ _) ?_
    exact zV_ireturn dX7_turnsThen_36 rfl rfl (⟨congrArg (fun x => some (Value.int (nI x))) (by unfold k_turns; (try simp only [k_isA2] at *); (repeat' split) <;> omega), rfl⟩)

set_option maxRecDepth 100000 in
theorem m_worthPaid {G : mG} {I : Nat → Nat → Int32} {J : Nat → Nat → Int64} {t : Nat} {B : Nat} {σ : aL} (hR : absR I 77 σ) (hW : wfL B σ) {c : Nat} (hc : c < σ.1) {p : Nat} (hp : p < 4) : zC G yX7_worthPaid (eX7_worthPaid (g_rmv 3)) [.ref 76, .int (nI c), .int (nI p)] (mm I J t) (fun r M => r = some (.int (nI (k_paid (σ.2.1 c) p))) ∧ M = mm I J t) := by
  refine zC_of (by decide +kernel) rfl (by decide) (Nat.le_of_ble_eq_true rfl) ?_
  have n10 := hW.1
  have w := hW.2.1 c hc
  obtain ⟨w0, w1, w2, w3, w4, w5, w6⟩ := id w
  have v1 := k_lies_lt w
  have v2 := k_turns_le w
  show zV G (eX7_worthPaid (g_rmv 3)) (0, 0) 0 [(0, .ref 76), (1, .int (nI c)), (2, .int (nI p))] [] (mm I J t) _
  refine zV_aload_n dX7_worthPaid_0 rfl 0 rfl rfl ?_
  refine zV_iload_n dX7_worthPaid_1 rfl 1 rfl rfl ?_
  refine zV_aload_n dX7_worthPaid_2 rfl 0 rfl rfl ?_
  refine zV_iload_n dX7_worthPaid_3 rfl 1 rfl rfl ?_
  refine zV_iconst (v := (nI 0)) dX7_worthPaid_4 rfl rfl ?_
  refine zV_callV (E' := eX7_coinIs (g_rmv 1)) (av := [.int (nI c), .int (nI 0)]) (st := [.int (nI c), .ref 76]) (b := 76) dX7_worthPaid_5 rfl (k_RX7_99 _) rfl ⟨by decide, by decide⟩ ⟨by decide, by decide⟩ (Or.inl rfl) rfl (Nat.le_of_ble_eq_true rfl) rfl rfl rfl (m_coinIs (c := c) (f := 0) hR hW hc (by decide)) (fun r5 M5 z => ?_)
  obtain ⟨rfl, rfl⟩ := z
  show zV G (eX7_worthPaid (g_rmv 3)) (0, 0) 8 [(0, .ref 76), (1, .int (nI c)), (2, .int (nI p))] [.int (nI (σ.2.1 c 0)), .int (nI c), .ref 76] (mm I J t) _
  refine zV_aload_n dX7_worthPaid_8 rfl 0 rfl rfl ?_
  refine zV_iload_n dX7_worthPaid_9 rfl 1 rfl rfl ?_
  refine zV_callV (E' := eX7_liesThen (g_rmv 2)) (av := [.int (nI c)]) (st := [.int (nI (σ.2.1 c 0)), .int (nI c), .ref 76]) (b := 76) dX7_worthPaid_10 rfl (k_RX7_114 _) rfl ⟨by decide, by decide⟩ ⟨by decide, by decide⟩ (Or.inl rfl) rfl (Nat.le_of_ble_eq_true rfl) rfl rfl rfl (m_lies (c := c) hR hW hc) (fun r10 M10 z => ?_)
  obtain ⟨rfl, rfl⟩ := z
  show zV G (eX7_worthPaid (g_rmv 3)) (0, 0) 13 [(0, .ref 76), (1, .int (nI c)), (2, .int (nI p))] [.int (nI (k_lies (σ.2.1 c))), .int (nI (σ.2.1 c 0)), .int (nI c), .ref 76] (mm I J t) _
  refine zV_aload_n dX7_worthPaid_13 rfl 0 rfl rfl ?_
  refine zV_iload_n dX7_worthPaid_14 rfl 1 rfl rfl ?_
  refine zV_callV (E' := eX7_turnsThen (g_rmv 2)) (av := [.int (nI c)]) (st := [.int (nI (k_lies (σ.2.1 c))), .int (nI (σ.2.1 c 0)), .int (nI c), .ref 76]) (b := 76) dX7_worthPaid_15 rfl (k_RX7_117 _) rfl ⟨by decide, by decide⟩ ⟨by decide, by decide⟩ (Or.inl rfl) rfl (Nat.le_of_ble_eq_true rfl) rfl rfl rfl (m_turns (c := c) hR hW hc) (fun r15 M15 z => ?_)
  obtain ⟨rfl, rfl⟩ := z
  show zV G (eX7_worthPaid (g_rmv 3)) (0, 0) 18 [(0, .ref 76), (1, .int (nI c)), (2, .int (nI p))] [.int (nI (k_turns (σ.2.1 c))), .int (nI (k_lies (σ.2.1 c))), .int (nI (σ.2.1 c 0)), .int (nI c), .ref 76] (mm I J t) _
  refine zV_iload_n dX7_worthPaid_18 rfl 2 rfl rfl ?_
  refine zV_callV (E' := eX7_worthSo (g_rmv 2)) (av := [.int (nI c), .int (nI (σ.2.1 c 0)), .int (nI (k_lies (σ.2.1 c))), .int (nI (k_turns (σ.2.1 c))), .int (nI p)]) (st := []) (b := 76) dX7_worthPaid_19 rfl (k_RX7_107 _) rfl ⟨by decide, by decide⟩ ⟨by decide, by decide⟩ (Or.inl rfl) rfl (Nat.le_of_ble_eq_true rfl) rfl rfl rfl (m_worthSo (c := c) (kd := (σ.2.1 c 0)) (sd := (k_lies (σ.2.1 c))) (tu := (k_turns (σ.2.1 c))) (wh := p) hR hW hc (by omega) (by omega) (by omega) (by omega)) (fun r19 M19 z => ?_)
  obtain ⟨rfl, rfl⟩ := z
  show zV G (eX7_worthPaid (g_rmv 3)) (0, 0) 22 [(0, .ref 76), (1, .int (nI c)), (2, .int (nI p))] [.int (nI (k_wIf (σ.2.1 c) (σ.2.1 c 0) (k_lies (σ.2.1 c)) (k_turns (σ.2.1 c)) p))] (mm I J t) _
  exact zV_ireturn dX7_worthPaid_22 rfl rfl (⟨rfl, rfl⟩)

theorem ld_cset2 (σ : aL) (c : Nat) (k k' : Nat → Nat) : ld_cset (ld_cset σ c k) c k' = ld_cset σ c k' := by
  unfold ld_cset
  congr 2
  funext c'
  by_cases e : c' = c <;> simp [e]
theorem ld_cset_at (σ : aL) (c : Nat) (k : Nat → Nat) : (ld_cset σ c k).2.1 c = k := by simp [ld_cset]
theorem absR.turn {I : Nat → Nat → Int32} {σ : aL} {c : Nat} (h : absR I 77 σ) : absR (up2 (up2 I 77 (13 + 6 * c + 4) (nI (k_lies (σ.2.1 c)))) 77 (13 + 6 * c + 5) (nI (k_turns (σ.2.1 c)))) 77 (ld_cset σ c (k_turn (σ.2.1 c))) := by
  have h1 := (h.set (c := c) (f := 4) (v := k_lies (σ.2.1 c)) (by decide)).set (c := c) (f := 5) (v := k_turns (σ.2.1 c)) (by decide)
  rw [ld_cset_at, ld_cset2] at h1
  refine h1.congr rfl (fun c' _ f _ => ?_) rfl
  show (if c' = c then k_turn (σ.2.1 c) else σ.2.1 c') f = (if c' = c then k_set (k_set (σ.2.1 c) 4 _) 5 _ else σ.2.1 c') f
  by_cases e : c' = c
  · rw [if_pos e, if_pos e]
    unfold k_turn k_set
    by_cases e4 : f = 4
    · subst e4; simp
    · by_cases e5 : f = 5
      · subst e5; simp
      · simp [e4, e5]
  · rw [if_neg e, if_neg e]
set_option maxRecDepth 100000 in
theorem m_turnsOver {G : mG} {I : Nat → Nat → Int32} {J : Nat → Nat → Int64} {t : Nat} {B : Nat} {σ : aL} (hR : absR I 77 σ) (hW : wfL B σ) {c : Nat} (hc : c < σ.1) : zC G yX7_turnsOver (eX7_turnsOver (g_rmv 3)) [.ref 76, .int (nI c)] (mm I J t) (fun r M => ∃ I', r = none ∧ M = mm I' J t ∧ absR I' 77 (ld_cset σ c (k_turn (σ.2.1 c))) ∧ frM I I') := by
  refine zC_of (by decide +kernel) rfl (by decide) (Nat.le_of_ble_eq_true rfl) ?_
  have n10 := hW.1
  have w := hW.2.1 c hc
  obtain ⟨w0, w1, w2, w3, w4, w5, w6⟩ := id w
  have v1 := k_lies_lt w
  have v2 := k_turns_le w
  show zV G (eX7_turnsOver (g_rmv 3)) (0, 0) 0 [(0, .ref 76), (1, .int (nI c))] [] (mm I J t) _
  refine zV_aload_n dX7_turnsOver_0 rfl 0 rfl rfl ?_
  refine zV_iload_n dX7_turnsOver_1 rfl 1 rfl rfl ?_
  refine zV_callV (E' := eX7_turnsThen (g_rmv 2)) (av := [.int (nI c)]) (st := []) (b := 76) dX7_turnsOver_2 rfl (k_RX7_117 _) rfl ⟨by decide, by decide⟩ ⟨by decide, by decide⟩ (Or.inl rfl) rfl (Nat.le_of_ble_eq_true rfl) rfl rfl rfl (m_turns (c := c) hR hW hc) (fun r2 M2 z => ?_)
  obtain ⟨rfl, rfl⟩ := z
  show zV G (eX7_turnsOver (g_rmv 3)) (0, 0) 5 [(0, .ref 76), (1, .int (nI c))] [.int (nI (k_turns (σ.2.1 c)))] (mm I J t) _
  refine zV_istore_n (lv' := [(0, .ref 76), (1, .int (nI c)), (2, .int (nI (k_turns (σ.2.1 c))))]) dX7_turnsOver_5 rfl rfl (by decide) rfl ?_
  refine zV_aload_n dX7_turnsOver_6 rfl 0 rfl rfl ?_
  refine zV_getr (q' := 77) 0 dX7_turnsOver_7 rfl fl_RX7_9 rfl (by decide) rfl rfl ?_
  refine zV_iload_n dX7_turnsOver_10 rfl 1 rfl rfl ?_
  refine zV_iconst (v := (nI 4)) dX7_turnsOver_11 rfl rfl ?_
  refine zV_callS (E' := eX7_at (g_rmv 0)) (av := [.int (nI c), .int (nI 4)]) (st := [.ref 77]) dX7_turnsOver_12 rfl (k_RX7_80 _) rfl ⟨by decide, by decide⟩ ⟨by decide, by decide⟩ (Or.inl rfl) rfl (Nat.le_of_ble_eq_true rfl) (m_at (c := c) (f := 4)) (fun r12 M12 z => ?_)
  obtain ⟨rfl, rfl⟩ := z
  show zV G (eX7_turnsOver (g_rmv 3)) (0, 0) 15 [(0, .ref 76), (1, .int (nI c)), (2, .int (nI (k_turns (σ.2.1 c))))] [.int (nI (13 + 6 * c + 4)), .ref 77] (mm I J t) _
  refine zV_aload_n dX7_turnsOver_15 rfl 0 rfl rfl ?_
  refine zV_iload_n dX7_turnsOver_16 rfl 1 rfl rfl ?_
  refine zV_callV (E' := eX7_liesThen (g_rmv 2)) (av := [.int (nI c)]) (st := [.int (nI (13 + 6 * c + 4)), .ref 77]) (b := 76) dX7_turnsOver_17 rfl (k_RX7_114 _) rfl ⟨by decide, by decide⟩ ⟨by decide, by decide⟩ (Or.inl rfl) rfl (Nat.le_of_ble_eq_true rfl) rfl rfl rfl (m_lies (c := c) hR hW hc) (fun r17 M17 z => ?_)
  obtain ⟨rfl, rfl⟩ := z
  show zV G (eX7_turnsOver (g_rmv 3)) (0, 0) 20 [(0, .ref 76), (1, .int (nI c)), (2, .int (nI (k_turns (σ.2.1 c))))] [.int (nI (k_lies (σ.2.1 c))), .int (nI (13 + 6 * c + 4)), .ref 77] (mm I J t) _
  refine zV_iastore (13 + 6 * c + 4) dX7_turnsOver_20 rfl rfl rfl (by omega) (by decide)  ?_
  refine zV_aload_n dX7_turnsOver_21 rfl 0 rfl rfl ?_
  refine zV_getr (q' := 77) 0 dX7_turnsOver_22 rfl fl_RX7_9 rfl (by decide) rfl rfl ?_
  refine zV_iload_n dX7_turnsOver_25 rfl 1 rfl rfl ?_
  refine zV_iconst (v := (nI 5)) dX7_turnsOver_26 rfl rfl ?_
  refine zV_callS (E' := eX7_at (g_rmv 0)) (av := [.int (nI c), .int (nI 5)]) (st := [.ref 77]) dX7_turnsOver_27 rfl (k_RX7_80 _) rfl ⟨by decide, by decide⟩ ⟨by decide, by decide⟩ (Or.inl rfl) rfl (Nat.le_of_ble_eq_true rfl) (m_at (c := c) (f := 5)) (fun r27 M27 z => ?_)
  obtain ⟨rfl, rfl⟩ := z
  show zV G (eX7_turnsOver (g_rmv 3)) (0, 0) 30 [(0, .ref 76), (1, .int (nI c)), (2, .int (nI (k_turns (σ.2.1 c))))] [.int (nI (13 + 6 * c + 5)), .ref 77] (mm (up2 I 77 (13 + 6 * c + 4) (nI (k_lies (σ.2.1 c)))) J t) _
  refine zV_iload_n dX7_turnsOver_30 rfl 2 rfl rfl ?_
  refine zV_iastore (13 + 6 * c + 5) dX7_turnsOver_31 rfl rfl rfl (by omega) (by decide)  ?_
  exact zV_return dX7_turnsOver_32 rfl (⟨_, rfl, rfl, hR.turn, frM.up.tr frM.up⟩)

theorem wf_cset {B B' : Nat} {σ : aL} {c : Nat} {k : Nat → Nat} (h : wfL B σ) (hk : wfK B' k) (hB : B ≤ B') : wfL B' (ld_cset σ c k) := by
  refine ⟨h.1, fun c' hc' => ?_, h.2.2.1, hk.2.2.2.2.2.2⟩
  show wfK B' (if c' = c then k else σ.2.1 c')
  split
  · exact hk
  · exact (h.2.1 c' hc').up hB hk.2.2.2.2.2.2
theorem k_turn_set (k : Nat → Nat) (p : Nat) (f : Nat) : k_turn (k_set k 1 p) f = k_set (k_turn k) 1 p f := by
  unfold k_turn k_set k_lies k_turns
  by_cases e : f = 1
  · subst e; simp
  · simp [e]
set_option maxRecDepth 100000 in
theorem m_paid {G : mG} {I : Nat → Nat → Int32} {J : Nat → Nat → Int64} {t : Nat} {B : Nat} {σ : aL} (hR : absR I 77 σ) (hW : wfL B σ) {c : Nat} (hc : c < σ.1) {p : Nat} (hp : p < 4) : zC G yX7_paid (eX7_paid (g_rmv 4)) [.ref 76, .int (nI c), .int (nI p)] (mm I J t) (fun r M => ∃ I', r = none ∧ M = mm I' J t ∧ absR I' 77 (ld_cset σ c (k_set (k_turn (σ.2.1 c)) 1 p)) ∧ frM I I') := by
  refine zC_of (by decide +kernel) rfl (by decide) (Nat.le_of_ble_eq_true rfl) ?_
  have n10 := hW.1
  have w := hW.2.1 c hc
  obtain ⟨w0, w1, w2, w3, w4, w5, w6⟩ := id w
  have v1 := k_lies_lt w
  have v2 := k_turns_le w
  show zV G (eX7_paid (g_rmv 4)) (0, 0) 0 [(0, .ref 76), (1, .int (nI c)), (2, .int (nI p))] [] (mm I J t) _
  refine zV_aload_n dX7_paid_0 rfl 0 rfl rfl ?_
  refine zV_getr (q' := 77) 0 dX7_paid_1 rfl fl_RX7_9 rfl (by decide) rfl rfl ?_
  refine zV_iload_n dX7_paid_4 rfl 1 rfl rfl ?_
  refine zV_iconst (v := (nI 1)) dX7_paid_5 rfl rfl ?_
  refine zV_callS (E' := eX7_at (g_rmv 0)) (av := [.int (nI c), .int (nI 1)]) (st := [.ref 77]) dX7_paid_6 rfl (k_RX7_80 _) rfl ⟨by decide, by decide⟩ ⟨by decide, by decide⟩ (Or.inl rfl) rfl (Nat.le_of_ble_eq_true rfl) (m_at (c := c) (f := 1)) (fun r6 M6 z => ?_)
  obtain ⟨rfl, rfl⟩ := z
  show zV G (eX7_paid (g_rmv 4)) (0, 0) 9 [(0, .ref 76), (1, .int (nI c)), (2, .int (nI p))] [.int (nI (13 + 6 * c + 1)), .ref 77] (mm I J t) _
  refine zV_iload_n dX7_paid_9 rfl 2 rfl rfl ?_
  refine zV_iastore (13 + 6 * c + 1) dX7_paid_10 rfl rfl rfl (by omega) (by decide)  ?_
  refine zV_aload_n dX7_paid_11 rfl 0 rfl rfl ?_
  refine zV_iload_n dX7_paid_12 rfl 1 rfl rfl ?_
  refine zV_callV (E' := eX7_turnsOver (g_rmv 3)) (av := [.int (nI c)]) (st := []) (b := 76) dX7_paid_13 rfl (k_RX7_120 _) rfl ⟨by decide, by decide⟩ ⟨by decide, by decide⟩ (Or.inl rfl) rfl (Nat.le_of_ble_eq_true rfl) rfl rfl rfl (m_turnsOver (σ := ld_cset σ c (k_set (σ.2.1 c) 1 p)) (c := c) (hR.set (by decide)) (wf_cset hW (show wfK B (k_set (σ.2.1 c) 1 p) from ⟨w0, hp, w2, w3, w4, w5, w6⟩) (Nat.le_refl _)) hc) (fun r13 M13 z => ?_)
  obtain ⟨I13, rfl, rfl, hR13, hF13⟩ := z
  show zV G (eX7_paid (g_rmv 4)) (0, 0) 16 [(0, .ref 76), (1, .int (nI c)), (2, .int (nI p))] [] (mm I13 J t) _
  exact zV_return dX7_paid_16 rfl (⟨_, rfl, rfl, by rw [ld_cset_at, ld_cset2] at hR13; exact hR13.congr rfl (fun c' _ f _ => by simp only [ld_cset]; split <;> first | exact (k_turn_set _ _ _).symm | rfl) rfl, frM.up.tr hF13⟩)

theorem z_or0 (s : Nat) : nI s ||| nI 0 = nI s := by rw [fa_or, Nat.or_zero]
theorem z_add0 (s : Nat) : nI s + nI 0 = nI s := by rw [nI_add, Nat.add_zero]
set_option maxRecDepth 100000 in
theorem m_has {G : mG} {I : Nat → Nat → Int32} {J : Nat → Nat → Int64} {t : Nat} {s c : Nat} (hs : s < 2 ^ 31) (hc : c < 31) : zC G yX7_has (eX7_has (g_rmv 0)) [.int (nI s), .int (nI c)] (mm I J t) (fun r M => r = some (.int (b2 (s.testBit c = true))) ∧ M = mm I J t) := by
  refine zC_of (by decide +kernel) rfl (by decide) (Nat.le_of_ble_eq_true rfl) ?_
  show zV G (eX7_has (g_rmv 0)) (0, 0) 0 [(0, .int (nI s)), (1, .int (nI c))] [] (mm I J t) _
  refine zV_iload_n dX7_has_0 rfl 0 rfl rfl ?_
  refine zV_iload_n dX7_has_1 rfl 1 rfl rfl ?_
  refine zA_ishr (z := (nI s >>> (nI c &&& 31))) dX7_has_2 rfl  (rfl) ?_
  refine zV_iconst (v := (nI 1)) dX7_has_3 rfl rfl ?_
  refine zA_iand (z := (nI (s / 2 ^ c % 2))) dX7_has_4 rfl  (z_bit hs hc) ?_
  refine zV_iconst (v := (nI 1)) dX7_has_5 rfl rfl ?_
  refine zN_icmp_ne (tgt := 13) dX7_has_6 rfl rfl (by omega) (by omega) (fun h6 => ?_) (fun h6 => ?_)
  · refine zV_iconst (v := (nI 0)) dX7_has_13 rfl rfl ?_
    exact zV_ireturn dX7_has_14 rfl rfl (⟨z_b0 (by have e := z_tb s c; simp_all), rfl⟩)
  · refine zV_iconst (v := (nI 1)) dX7_has_9 rfl rfl ?_
    refine zV_goto (tgt := 14) dX7_has_10 rfl ?_
    exact zV_ireturn dX7_has_14 rfl rfl (⟨z_b1 (by have e := z_tb s c; simp_all), rfl⟩)

set_option maxRecDepth 100000 in
theorem m_setOf {G : mG} {I : Nat → Nat → Int32} {J : Nat → Nat → Int64} {t : Nat} {B : Nat} {σ : aL} (hR : absR I 77 σ) (hW : wfL B σ) {p : Nat} (hp : p < 4) : zC G yX7_setOf (eX7_setOf (g_rmv 2)) [.ref 76, .int (nI p)] (mm I J t) (fun r M => r = some (.int (nI (ld_in σ p))) ∧ M = mm I J t) := by
  refine zC_of (by decide +kernel) rfl (by decide) (Nat.le_of_ble_eq_true rfl) ?_
  have n10 := hW.1
  show zV G (eX7_setOf (g_rmv 2)) (0, 0) 0 [(0, .ref 76), (1, .int (nI p))] [] (mm I J t) _
  refine zV_iconst (v := (nI 0)) dX7_setOf_0 rfl rfl ?_
  refine zV_istore_n (lv' := [(0, .ref 76), (1, .int (nI p)), (2, .int (nI 0))]) dX7_setOf_1 rfl rfl (by decide) rfl ?_
  refine zV_iconst (v := (nI 0)) dX7_setOf_2 rfl rfl ?_
  refine zV_istore_n (lv' := [(0, .ref 76), (1, .int (nI p)), (2, .int (nI 0)), (3, .int (nI 0))]) dX7_setOf_3 rfl rfl (by decide) rfl ?_
  refine z_for (fun c => zV G (eX7_setOf (g_rmv 2)) (0, 0) 4 [(0, .ref 76), (1, .int (nI p)), (2, .int (nI (bitsTo (fun c => decide (σ.2.1 c 1 = p)) c))), (3, .int (nI c))] [] (mm I J t) _) σ.1 ?_ ?_ 0 (Nat.zero_le _)
  · skip
    refine zV_iload_n dX7_setOf_4 rfl 3 rfl rfl ?_
    refine zV_aload_n dX7_setOf_5 rfl 0 rfl rfl ?_
    refine zV_getr (q' := 77) 0 dX7_setOf_6 rfl fl_RX7_9 rfl (by decide) rfl rfl ?_
    refine zV_iconst (v := (nI 1)) dX7_setOf_9 rfl rfl ?_
    refine zV_iald (x := (nI σ.1)) 1 dX7_setOf_10 rfl rfl rfl (by decide) (by decide) hR.2.1 ?_
    refine zN_icmp_ge (tgt := 40) dX7_setOf_11 rfl rfl (by omega) (by omega) (fun _ => ?_) (fun z => absurd z (by omega))
    refine zV_iload_n dX7_setOf_40 rfl 2 rfl rfl ?_
    exact zV_ireturn dX7_setOf_41 rfl rfl (⟨rfl, rfl⟩)
  · intro c hc ih
    have w := hW.2.1 c hc
    obtain ⟨w0, w1, w2, w3, w4, w5, w6⟩ := id w
    refine zV_iload_n dX7_setOf_4 rfl 3 rfl rfl ?_
    refine zV_aload_n dX7_setOf_5 rfl 0 rfl rfl ?_
    refine zV_getr (q' := 77) 0 dX7_setOf_6 rfl fl_RX7_9 rfl (by decide) rfl rfl ?_
    refine zV_iconst (v := (nI 1)) dX7_setOf_9 rfl rfl ?_
    refine zV_iald (x := (nI σ.1)) 1 dX7_setOf_10 rfl rfl rfl (by decide) (by decide) hR.2.1 ?_
    refine zN_icmp_ge (tgt := 40) dX7_setOf_11 rfl rfl (by omega) (by omega) (fun z => absurd z (by omega)) (fun _ => ?_)
    refine zV_iload_n dX7_setOf_14 rfl 2 rfl rfl ?_
    refine zV_aload_n dX7_setOf_15 rfl 0 rfl rfl ?_
    refine zV_iload_n dX7_setOf_16 rfl 3 rfl rfl ?_
    refine zV_iconst (v := (nI 1)) dX7_setOf_17 rfl rfl ?_
    refine zV_callV (E' := eX7_coinIs (g_rmv 1)) (av := [.int (nI c), .int (nI 1)]) (st := [.int (nI (bitsTo (fun c => decide (σ.2.1 c 1 = p)) c))]) (b := 76) dX7_setOf_18 rfl (k_RX7_99 _) rfl ⟨by decide, by decide⟩ ⟨by decide, by decide⟩ (Or.inl rfl) rfl (Nat.le_of_ble_eq_true rfl) rfl rfl rfl (m_coinIs (c := c) (f := 1) hR hW hc (by decide)) (fun r18 M18 z => ?_)
    obtain ⟨rfl, rfl⟩ := z
    show zV G (eX7_setOf (g_rmv 2)) (0, 0) 21 [(0, .ref 76), (1, .int (nI p)), (2, .int (nI (bitsTo (fun c => decide (σ.2.1 c 1 = p)) c))), (3, .int (nI c))] [.int (nI (σ.2.1 c 1)), .int (nI (bitsTo (fun c => decide (σ.2.1 c 1 = p)) c))] (mm I J t) _
    refine zV_iload_n dX7_setOf_21 rfl 1 rfl rfl ?_
    refine zN_icmp_ne (tgt := 31) dX7_setOf_22 rfl rfl (by omega) (by omega) (fun h22 => ?_) (fun h22 => ?_)
    · refine zV_iconst (v := (nI 0)) dX7_setOf_31 rfl rfl ?_
      refine zA_ior (z := (nI (bitsTo (fun c => decide (σ.2.1 c 1 = p)) c))) dX7_setOf_32 rfl  (z_or0 _) ?_
      refine zV_istore_n (lv' := [(0, .ref 76), (1, .int (nI p)), (2, .int (nI (bitsTo (fun c => decide (σ.2.1 c 1 = p)) c))), (3, .int (nI c))]) dX7_setOf_33 rfl rfl (by decide) rfl ?_
      refine zV_iinc (y := (nI (c + 1))) (lv' := [(0, .ref 76), (1, .int (nI p)), (2, .int (nI (bitsTo (fun c => decide (σ.2.1 c 1 = p)) c))), (3, .int (nI (c + 1)))]) dX7_setOf_34 rfl 3 rfl (nI_1 _) (by decide) rfl ?_
      refine zV_goto (tgt := 4) dX7_setOf_37 rfl ?_
      rw [show bitsTo (fun c => decide (σ.2.1 c 1 = p)) (c + 1) = (bitsTo (fun c => decide (σ.2.1 c 1 = p)) c) by simp [bitsTo, *]] at ih
      exact ih
    · refine zV_iconst (v := (nI 1)) dX7_setOf_25 rfl rfl ?_
      refine zV_iload_n dX7_setOf_26 rfl 3 rfl rfl ?_
      refine zA_ishl (z := (nI (2 ^ c))) dX7_setOf_27 rfl  (z_shl1 (by omega)) ?_
      refine zV_goto (tgt := 32) dX7_setOf_28 rfl ?_
      refine zA_ior (z := (nI ((bitsTo (fun c => decide (σ.2.1 c 1 = p)) c) + (2 ^ c)))) dX7_setOf_32 rfl  (z_or (bitsTo_lt _ _)) ?_
      refine zV_istore_n (lv' := [(0, .ref 76), (1, .int (nI p)), (2, .int (nI ((bitsTo (fun c => decide (σ.2.1 c 1 = p)) c) + (2 ^ c)))), (3, .int (nI c))]) dX7_setOf_33 rfl rfl (by decide) rfl ?_
      refine zV_iinc (y := (nI (c + 1))) (lv' := [(0, .ref 76), (1, .int (nI p)), (2, .int (nI ((bitsTo (fun c => decide (σ.2.1 c 1 = p)) c) + (2 ^ c)))), (3, .int (nI (c + 1)))]) dX7_setOf_34 rfl 3 rfl (nI_1 _) (by decide) rfl ?_
      refine zV_goto (tgt := 4) dX7_setOf_37 rfl ?_
      rw [show bitsTo (fun c => decide (σ.2.1 c 1 = p)) (c + 1) = ((bitsTo (fun c => decide (σ.2.1 c 1 = p)) c) + (2 ^ c)) by simp [bitsTo, *]] at ih
      exact ih

def ld_sumP (σ : aL) (s p : Nat) : Nat := fb_sm (fun c => if s.testBit c then k_paid (σ.2.1 c) p else 0) σ.1
set_option maxRecDepth 100000 in
theorem m_sumOf {G : mG} {I : Nat → Nat → Int32} {J : Nat → Nat → Int64} {t : Nat} {B : Nat} {σ : aL} (hR : absR I 77 σ) (hW : wfL B σ) {s : Nat} (hs : s < 2 ^ 31) : zC G yX7_sumOf (eX7_sumOf (g_rmv 4)) [.ref 76, .int (nI s)] (mm I J t) (fun r M => r = some (.int (nI (ld_sum σ s))) ∧ M = mm I J t) := by
  refine zC_of (by decide +kernel) rfl (by decide) (Nat.le_of_ble_eq_true rfl) ?_
  have n10 := hW.1
  show zV G (eX7_sumOf (g_rmv 4)) (0, 0) 0 [(0, .ref 76), (1, .int (nI s))] [] (mm I J t) _
  refine zV_iconst (v := (nI 0)) dX7_sumOf_0 rfl rfl ?_
  refine zV_istore_n (lv' := [(0, .ref 76), (1, .int (nI s)), (2, .int (nI 0))]) dX7_sumOf_1 rfl rfl (by decide) rfl ?_
  refine zV_iconst (v := (nI 0)) dX7_sumOf_2 rfl rfl ?_
  refine zV_istore_n (lv' := [(0, .ref 76), (1, .int (nI s)), (2, .int (nI 0)), (3, .int (nI 0))]) dX7_sumOf_3 rfl rfl (by decide) rfl ?_
  refine z_for (fun c => zV G (eX7_sumOf (g_rmv 4)) (0, 0) 4 [(0, .ref 76), (1, .int (nI s)), (2, .int (nI (fb_sm (fun c => if s.testBit c then k_now (σ.2.1 c) else 0) c))), (3, .int (nI c))] [] (mm I J t) _) σ.1 ?_ ?_ 0 (Nat.zero_le _)
  · skip
    refine zV_iload_n dX7_sumOf_4 rfl 3 rfl rfl ?_
    refine zV_aload_n dX7_sumOf_5 rfl 0 rfl rfl ?_
    refine zV_getr (q' := 77) 0 dX7_sumOf_6 rfl fl_RX7_9 rfl (by decide) rfl rfl ?_
    refine zV_iconst (v := (nI 1)) dX7_sumOf_9 rfl rfl ?_
    refine zV_iald (x := (nI σ.1)) 1 dX7_sumOf_10 rfl rfl rfl (by decide) (by decide) hR.2.1 ?_
    refine zN_icmp_ge (tgt := 40) dX7_sumOf_11 rfl rfl (by omega) (by omega) (fun _ => ?_) (fun z => absurd z (by omega))
    refine zV_iload_n dX7_sumOf_40 rfl 2 rfl rfl ?_
    exact zV_ireturn dX7_sumOf_41 rfl rfl (⟨rfl, rfl⟩)
  · intro c hc ih
    have w := hW.2.1 c hc
    obtain ⟨w0, w1, w2, w3, w4, w5, w6⟩ := id w
    refine zV_iload_n dX7_sumOf_4 rfl 3 rfl rfl ?_
    refine zV_aload_n dX7_sumOf_5 rfl 0 rfl rfl ?_
    refine zV_getr (q' := 77) 0 dX7_sumOf_6 rfl fl_RX7_9 rfl (by decide) rfl rfl ?_
    refine zV_iconst (v := (nI 1)) dX7_sumOf_9 rfl rfl ?_
    refine zV_iald (x := (nI σ.1)) 1 dX7_sumOf_10 rfl rfl rfl (by decide) (by decide) hR.2.1 ?_
    refine zN_icmp_ge (tgt := 40) dX7_sumOf_11 rfl rfl (by omega) (by omega) (fun z => absurd z (by omega)) (fun _ => ?_)
    refine zV_iload_n dX7_sumOf_14 rfl 2 rfl rfl ?_
    refine zV_iload_n dX7_sumOf_15 rfl 1 rfl rfl ?_
    refine zV_iload_n dX7_sumOf_16 rfl 3 rfl rfl ?_
    refine zV_callS (E' := eX7_has (g_rmv 0)) (av := [.int (nI s), .int (nI c)]) (st := [.int (nI (fb_sm (fun c => if s.testBit c then k_now (σ.2.1 c) else 0) c))]) dX7_sumOf_17 rfl (k_RX7_133 _) rfl ⟨by decide, by decide⟩ ⟨by decide, by decide⟩ (Or.inl rfl) rfl (Nat.le_of_ble_eq_true rfl) (m_has (s := s) (c := c) (by omega) (by omega)) (fun r17 M17 z => ?_)
    obtain ⟨rfl, rfl⟩ := z
    show zV G (eX7_sumOf (g_rmv 4)) (0, 0) 20 [(0, .ref 76), (1, .int (nI s)), (2, .int (nI (fb_sm (fun c => if s.testBit c then k_now (σ.2.1 c) else 0) c))), (3, .int (nI c))] [.int (b2 ((s).testBit c = true)), .int (nI (fb_sm (fun c => if s.testBit c then k_now (σ.2.1 c) else 0) c))] (mm I J t) _
    refine zB_if_eq (tgt := 31) dX7_sumOf_20 rfl rfl  (fun h20 => ?_) (fun h20 => ?_)
    · refine zV_iconst (v := (nI 0)) dX7_sumOf_31 rfl rfl ?_
      refine zA_iadd (z := (nI (fb_sm (fun c => if s.testBit c then k_now (σ.2.1 c) else 0) c))) dX7_sumOf_32 rfl  (z_add0 _) ?_
      refine zV_istore_n (lv' := [(0, .ref 76), (1, .int (nI s)), (2, .int (nI (fb_sm (fun c => if s.testBit c then k_now (σ.2.1 c) else 0) c))), (3, .int (nI c))]) dX7_sumOf_33 rfl rfl (by decide) rfl ?_
      refine zV_iinc (y := (nI (c + 1))) (lv' := [(0, .ref 76), (1, .int (nI s)), (2, .int (nI (fb_sm (fun c => if s.testBit c then k_now (σ.2.1 c) else 0) c))), (3, .int (nI (c + 1)))]) dX7_sumOf_34 rfl 3 rfl (nI_1 _) (by decide) rfl ?_
      refine zV_goto (tgt := 4) dX7_sumOf_37 rfl ?_
      rw [show fb_sm (fun c => if s.testBit c then k_now (σ.2.1 c) else 0) (c + 1) = (fb_sm (fun c => if s.testBit c then k_now (σ.2.1 c) else 0) c) by rw [fb_sm_succ]; simp [*]] at ih
      exact ih
    · refine zV_aload_n dX7_sumOf_23 rfl 0 rfl rfl ?_
      refine zV_iload_n dX7_sumOf_24 rfl 3 rfl rfl ?_
      refine zV_callV (E' := eX7_worth (g_rmv 3)) (av := [.int (nI c)]) (st := [.int (nI (fb_sm (fun c => if s.testBit c then k_now (σ.2.1 c) else 0) c))]) (b := 76) dX7_sumOf_25 rfl (k_RX7_127 _) rfl ⟨by decide, by decide⟩ ⟨by decide, by decide⟩ (Or.inl rfl) rfl (Nat.le_of_ble_eq_true rfl) rfl rfl rfl (m_worth (c := c) hR hW hc) (fun r25 M25 z => ?_)
      obtain ⟨rfl, rfl⟩ := z
      show zV G (eX7_sumOf (g_rmv 4)) (0, 0) 28 [(0, .ref 76), (1, .int (nI s)), (2, .int (nI (fb_sm (fun c => if s.testBit c then k_now (σ.2.1 c) else 0) c))), (3, .int (nI c))] [.int (nI (k_now (σ.2.1 c))), .int (nI (fb_sm (fun c => if s.testBit c then k_now (σ.2.1 c) else 0) c))] (mm I J t) _
      refine zV_goto (tgt := 32) dX7_sumOf_28 rfl ?_
      refine zA_iadd (z := (nI ((fb_sm (fun c => if s.testBit c then k_now (σ.2.1 c) else 0) c) + (k_now (σ.2.1 c))))) dX7_sumOf_32 rfl  (nI_add _ _) ?_
      refine zV_istore_n (lv' := [(0, .ref 76), (1, .int (nI s)), (2, .int (nI ((fb_sm (fun c => if s.testBit c then k_now (σ.2.1 c) else 0) c) + (k_now (σ.2.1 c))))), (3, .int (nI c))]) dX7_sumOf_33 rfl rfl (by decide) rfl ?_
      refine zV_iinc (y := (nI (c + 1))) (lv' := [(0, .ref 76), (1, .int (nI s)), (2, .int (nI ((fb_sm (fun c => if s.testBit c then k_now (σ.2.1 c) else 0) c) + (k_now (σ.2.1 c))))), (3, .int (nI (c + 1)))]) dX7_sumOf_34 rfl 3 rfl (nI_1 _) (by decide) rfl ?_
      refine zV_goto (tgt := 4) dX7_sumOf_37 rfl ?_
      rw [show fb_sm (fun c => if s.testBit c then k_now (σ.2.1 c) else 0) (c + 1) = ((fb_sm (fun c => if s.testBit c then k_now (σ.2.1 c) else 0) c) + (k_now (σ.2.1 c))) by rw [fb_sm_succ]; simp [*]] at ih
      exact ih

set_option maxRecDepth 100000 in
theorem m_sumPaid {G : mG} {I : Nat → Nat → Int32} {J : Nat → Nat → Int64} {t : Nat} {B : Nat} {σ : aL} (hR : absR I 77 σ) (hW : wfL B σ) {s p : Nat} (hs : s < 2 ^ 31) (hp : p < 4) : zC G yX7_sumPaid (eX7_sumPaid (g_rmv 4)) [.ref 76, .int (nI s), .int (nI p)] (mm I J t) (fun r M => r = some (.int (nI (ld_sumP σ s p))) ∧ M = mm I J t) := by
  refine zC_of (by decide +kernel) rfl (by decide) (Nat.le_of_ble_eq_true rfl) ?_
  have n10 := hW.1
  show zV G (eX7_sumPaid (g_rmv 4)) (0, 0) 0 [(0, .ref 76), (1, .int (nI s)), (2, .int (nI p))] [] (mm I J t) _
  refine zV_iconst (v := (nI 0)) dX7_sumPaid_0 rfl rfl ?_
  refine zV_istore_n (lv' := [(0, .ref 76), (1, .int (nI s)), (2, .int (nI p)), (3, .int (nI 0))]) dX7_sumPaid_1 rfl rfl (by decide) rfl ?_
  refine zV_iconst (v := (nI 0)) dX7_sumPaid_2 rfl rfl ?_
  refine zV_istore (lv' := [(0, .ref 76), (1, .int (nI s)), (2, .int (nI p)), (3, .int (nI 0)), (4, .int (nI 0))]) dX7_sumPaid_3 rfl (by decide) rfl ?_
  refine z_for (fun c => zV G (eX7_sumPaid (g_rmv 4)) (0, 0) 5 [(0, .ref 76), (1, .int (nI s)), (2, .int (nI p)), (3, .int (nI (fb_sm (fun c => if s.testBit c then k_paid (σ.2.1 c) p else 0) c))), (4, .int (nI c))] [] (mm I J t) _) σ.1 ?_ ?_ 0 (Nat.zero_le _)
  · skip
    refine zV_iload dX7_sumPaid_5 rfl 4 rfl ?_
    refine zV_aload_n dX7_sumPaid_7 rfl 0 rfl rfl ?_
    refine zV_getr (q' := 77) 0 dX7_sumPaid_8 rfl fl_RX7_9 rfl (by decide) rfl rfl ?_
    refine zV_iconst (v := (nI 1)) dX7_sumPaid_11 rfl rfl ?_
    refine zV_iald (x := (nI σ.1)) 1 dX7_sumPaid_12 rfl rfl rfl (by decide) (by decide) hR.2.1 ?_
    refine zN_icmp_ge (tgt := 45) dX7_sumPaid_13 rfl rfl (by omega) (by omega) (fun _ => ?_) (fun z => absurd z (by omega))
    refine zV_iload_n dX7_sumPaid_45 rfl 3 rfl rfl ?_
    exact zV_ireturn dX7_sumPaid_46 rfl rfl (⟨rfl, rfl⟩)
  · intro c hc ih
    have w := hW.2.1 c hc
    obtain ⟨w0, w1, w2, w3, w4, w5, w6⟩ := id w
    refine zV_iload dX7_sumPaid_5 rfl 4 rfl ?_
    refine zV_aload_n dX7_sumPaid_7 rfl 0 rfl rfl ?_
    refine zV_getr (q' := 77) 0 dX7_sumPaid_8 rfl fl_RX7_9 rfl (by decide) rfl rfl ?_
    refine zV_iconst (v := (nI 1)) dX7_sumPaid_11 rfl rfl ?_
    refine zV_iald (x := (nI σ.1)) 1 dX7_sumPaid_12 rfl rfl rfl (by decide) (by decide) hR.2.1 ?_
    refine zN_icmp_ge (tgt := 45) dX7_sumPaid_13 rfl rfl (by omega) (by omega) (fun z => absurd z (by omega)) (fun _ => ?_)
    refine zV_iload_n dX7_sumPaid_16 rfl 3 rfl rfl ?_
    refine zV_iload_n dX7_sumPaid_17 rfl 1 rfl rfl ?_
    refine zV_iload dX7_sumPaid_18 rfl 4 rfl ?_
    refine zV_callS (E' := eX7_has (g_rmv 0)) (av := [.int (nI s), .int (nI c)]) (st := [.int (nI (fb_sm (fun c => if s.testBit c then k_paid (σ.2.1 c) p else 0) c))]) dX7_sumPaid_20 rfl (k_RX7_133 _) rfl ⟨by decide, by decide⟩ ⟨by decide, by decide⟩ (Or.inl rfl) rfl (Nat.le_of_ble_eq_true rfl) (m_has (s := s) (c := c) (by omega) (by omega)) (fun r20 M20 z => ?_)
    obtain ⟨rfl, rfl⟩ := z
    show zV G (eX7_sumPaid (g_rmv 4)) (0, 0) 23 [(0, .ref 76), (1, .int (nI s)), (2, .int (nI p)), (3, .int (nI (fb_sm (fun c => if s.testBit c then k_paid (σ.2.1 c) p else 0) c))), (4, .int (nI c))] [.int (b2 ((s).testBit c = true)), .int (nI (fb_sm (fun c => if s.testBit c then k_paid (σ.2.1 c) p else 0) c))] (mm I J t) _
    refine zB_if_eq (tgt := 36) dX7_sumPaid_23 rfl rfl  (fun h23 => ?_) (fun h23 => ?_)
    · refine zV_iconst (v := (nI 0)) dX7_sumPaid_36 rfl rfl ?_
      refine zA_iadd (z := (nI (fb_sm (fun c => if s.testBit c then k_paid (σ.2.1 c) p else 0) c))) dX7_sumPaid_37 rfl  (z_add0 _) ?_
      refine zV_istore_n (lv' := [(0, .ref 76), (1, .int (nI s)), (2, .int (nI p)), (3, .int (nI (fb_sm (fun c => if s.testBit c then k_paid (σ.2.1 c) p else 0) c))), (4, .int (nI c))]) dX7_sumPaid_38 rfl rfl (by decide) rfl ?_
      refine zV_iinc (y := (nI (c + 1))) (lv' := [(0, .ref 76), (1, .int (nI s)), (2, .int (nI p)), (3, .int (nI (fb_sm (fun c => if s.testBit c then k_paid (σ.2.1 c) p else 0) c))), (4, .int (nI (c + 1)))]) dX7_sumPaid_39 rfl 4 rfl (nI_1 _) (by decide) rfl ?_
      refine zV_goto (tgt := 5) dX7_sumPaid_42 rfl ?_
      rw [show fb_sm (fun c => if s.testBit c then k_paid (σ.2.1 c) p else 0) (c + 1) = (fb_sm (fun c => if s.testBit c then k_paid (σ.2.1 c) p else 0) c) by rw [fb_sm_succ]; simp [*]] at ih
      exact ih
    · refine zV_aload_n dX7_sumPaid_26 rfl 0 rfl rfl ?_
      refine zV_iload dX7_sumPaid_27 rfl 4 rfl ?_
      refine zV_iload_n dX7_sumPaid_29 rfl 2 rfl rfl ?_
      refine zV_callV (E' := eX7_worthPaid (g_rmv 3)) (av := [.int (nI c), .int (nI p)]) (st := [.int (nI (fb_sm (fun c => if s.testBit c then k_paid (σ.2.1 c) p else 0) c))]) (b := 76) dX7_sumPaid_30 rfl (k_RX7_136 _) rfl ⟨by decide, by decide⟩ ⟨by decide, by decide⟩ (Or.inl rfl) rfl (Nat.le_of_ble_eq_true rfl) rfl rfl rfl (m_worthPaid (c := c) (p := p) hR hW hc (by omega)) (fun r30 M30 z => ?_)
      obtain ⟨rfl, rfl⟩ := z
      show zV G (eX7_sumPaid (g_rmv 4)) (0, 0) 33 [(0, .ref 76), (1, .int (nI s)), (2, .int (nI p)), (3, .int (nI (fb_sm (fun c => if s.testBit c then k_paid (σ.2.1 c) p else 0) c))), (4, .int (nI c))] [.int (nI (k_paid (σ.2.1 c) p)), .int (nI (fb_sm (fun c => if s.testBit c then k_paid (σ.2.1 c) p else 0) c))] (mm I J t) _
      refine zV_goto (tgt := 37) dX7_sumPaid_33 rfl ?_
      refine zA_iadd (z := (nI ((fb_sm (fun c => if s.testBit c then k_paid (σ.2.1 c) p else 0) c) + (k_paid (σ.2.1 c) p)))) dX7_sumPaid_37 rfl  (nI_add _ _) ?_
      refine zV_istore_n (lv' := [(0, .ref 76), (1, .int (nI s)), (2, .int (nI p)), (3, .int (nI ((fb_sm (fun c => if s.testBit c then k_paid (σ.2.1 c) p else 0) c) + (k_paid (σ.2.1 c) p)))), (4, .int (nI c))]) dX7_sumPaid_38 rfl rfl (by decide) rfl ?_
      refine zV_iinc (y := (nI (c + 1))) (lv' := [(0, .ref 76), (1, .int (nI s)), (2, .int (nI p)), (3, .int (nI ((fb_sm (fun c => if s.testBit c then k_paid (σ.2.1 c) p else 0) c) + (k_paid (σ.2.1 c) p)))), (4, .int (nI (c + 1)))]) dX7_sumPaid_39 rfl 4 rfl (nI_1 _) (by decide) rfl ?_
      refine zV_goto (tgt := 5) dX7_sumPaid_42 rfl ?_
      rw [show fb_sm (fun c => if s.testBit c then k_paid (σ.2.1 c) p else 0) (c + 1) = ((fb_sm (fun c => if s.testBit c then k_paid (σ.2.1 c) p else 0) c) + (k_paid (σ.2.1 c) p)) by rw [fb_sm_succ]; simp [*]] at ih
      exact ih

theorem z_shlx {v c : Nat} (hv : v < 2) (h : c < 30) : nI v <<< (nI c &&& 31) = nI (v * 2 ^ c) := by
  have h2 : 2 ^ c < 2 ^ 30 := Nat.pow_lt_pow_right (by decide) h
  have h3 : v * 2 ^ c ≤ 1 * 2 ^ c := Nat.mul_le_mul_right _ (by omega)
  rw [pk_shlN (nI c &&& 31) c (s_l c (by omega)) (by omega)]
theorem z_orx {s v c : Nat} (hv : v < 2) (hs : s < 2 ^ c) : nI s ||| nI (v * 2 ^ c) = nI (s + if v = 1 then 2 ^ c else 0) := by
  rcases (show v = 0 ∨ v = 1 by omega) with rfl | rfl
  · rw [Nat.zero_mul, z_or0]; rfl
  · rw [Nat.one_mul, z_or hs]; rfl
set_option maxRecDepth 100000 in
theorem m_shipUp {G : mG} {I : Nat → Nat → Int32} {J : Nat → Nat → Int64} {t : Nat} {B : Nat} {σ : aL} (hR : absR I 77 σ) (hW : wfL B σ) : zC G yX7_shipUp (eX7_shipUp (g_rmv 2)) [.ref 76] (mm I J t) (fun r M => r = some (.int (nI (ld_ly σ 1))) ∧ M = mm I J t) := by
  refine zC_of (by decide +kernel) rfl (by decide) (Nat.le_of_ble_eq_true rfl) ?_
  have n10 := hW.1
  show zV G (eX7_shipUp (g_rmv 2)) (0, 0) 0 [(0, .ref 76)] [] (mm I J t) _
  refine zV_iconst (v := (nI 0)) dX7_shipUp_0 rfl rfl ?_
  refine zV_istore_n (lv' := [(0, .ref 76), (1, .int (nI 0))]) dX7_shipUp_1 rfl rfl (by decide) rfl ?_
  refine zV_iconst (v := (nI 0)) dX7_shipUp_2 rfl rfl ?_
  refine zV_istore_n (lv' := [(0, .ref 76), (1, .int (nI 0)), (2, .int (nI 0))]) dX7_shipUp_3 rfl rfl (by decide) rfl ?_
  refine z_for (fun c => zV G (eX7_shipUp (g_rmv 2)) (0, 0) 4 [(0, .ref 76), (1, .int (nI (bitsTo (fun c => decide (σ.2.1 c 4 = 1)) c))), (2, .int (nI c))] [] (mm I J t) _) σ.1 ?_ ?_ 0 (Nat.zero_le _)
  · skip
    refine zV_iload_n dX7_shipUp_4 rfl 2 rfl rfl ?_
    refine zV_aload_n dX7_shipUp_5 rfl 0 rfl rfl ?_
    refine zV_getr (q' := 77) 0 dX7_shipUp_6 rfl fl_RX7_9 rfl (by decide) rfl rfl ?_
    refine zV_iconst (v := (nI 1)) dX7_shipUp_9 rfl rfl ?_
    refine zV_iald (x := (nI σ.1)) 1 dX7_shipUp_10 rfl rfl rfl (by decide) (by decide) hR.2.1 ?_
    refine zN_icmp_ge (tgt := 31) dX7_shipUp_11 rfl rfl (by omega) (by omega) (fun _ => ?_) (fun z => absurd z (by omega))
    refine zV_iload_n dX7_shipUp_31 rfl 1 rfl rfl ?_
    exact zV_ireturn dX7_shipUp_32 rfl rfl (⟨rfl, rfl⟩)
  · intro c hc ih
    have w := hW.2.1 c hc
    obtain ⟨w0, w1, w2, w3, w4, w5, w6⟩ := id w
    refine zV_iload_n dX7_shipUp_4 rfl 2 rfl rfl ?_
    refine zV_aload_n dX7_shipUp_5 rfl 0 rfl rfl ?_
    refine zV_getr (q' := 77) 0 dX7_shipUp_6 rfl fl_RX7_9 rfl (by decide) rfl rfl ?_
    refine zV_iconst (v := (nI 1)) dX7_shipUp_9 rfl rfl ?_
    refine zV_iald (x := (nI σ.1)) 1 dX7_shipUp_10 rfl rfl rfl (by decide) (by decide) hR.2.1 ?_
    refine zN_icmp_ge (tgt := 31) dX7_shipUp_11 rfl rfl (by omega) (by omega) (fun z => absurd z (by omega)) (fun _ => ?_)
    refine zV_iload_n dX7_shipUp_14 rfl 1 rfl rfl ?_
    refine zV_aload_n dX7_shipUp_15 rfl 0 rfl rfl ?_
    refine zV_iload_n dX7_shipUp_16 rfl 2 rfl rfl ?_
    refine zV_iconst (v := (nI 4)) dX7_shipUp_17 rfl rfl ?_
    refine zV_callV (E' := eX7_coinIs (g_rmv 1)) (av := [.int (nI c), .int (nI 4)]) (st := [.int (nI (bitsTo (fun c => decide (σ.2.1 c 4 = 1)) c))]) (b := 76) dX7_shipUp_18 rfl (k_RX7_99 _) rfl ⟨by decide, by decide⟩ ⟨by decide, by decide⟩ (Or.inl rfl) rfl (Nat.le_of_ble_eq_true rfl) rfl rfl rfl (m_coinIs (c := c) (f := 4) hR hW hc (by decide)) (fun r18 M18 z => ?_)
    obtain ⟨rfl, rfl⟩ := z
    show zV G (eX7_shipUp (g_rmv 2)) (0, 0) 21 [(0, .ref 76), (1, .int (nI (bitsTo (fun c => decide (σ.2.1 c 4 = 1)) c))), (2, .int (nI c))] [.int (nI (σ.2.1 c 4)), .int (nI (bitsTo (fun c => decide (σ.2.1 c 4 = 1)) c))] (mm I J t) _
    refine zV_iload_n dX7_shipUp_21 rfl 2 rfl rfl ?_
    refine zA_ishl (z := (nI ((σ.2.1 c 4) * 2 ^ c))) dX7_shipUp_22 rfl  (z_shlx (by omega) (by omega)) ?_
    refine zA_ior (z := (nI ((bitsTo (fun c => decide (σ.2.1 c 4 = 1)) c) + if σ.2.1 c 4 = 1 then 2 ^ c else 0))) dX7_shipUp_23 rfl  (z_orx (by omega) (bitsTo_lt _ _)) ?_
    refine zV_istore_n (lv' := [(0, .ref 76), (1, .int (nI ((bitsTo (fun c => decide (σ.2.1 c 4 = 1)) c) + if σ.2.1 c 4 = 1 then 2 ^ c else 0))), (2, .int (nI c))]) dX7_shipUp_24 rfl rfl (by decide) rfl ?_
    refine zV_iinc (y := (nI (c + 1))) (lv' := [(0, .ref 76), (1, .int (nI ((bitsTo (fun c => decide (σ.2.1 c 4 = 1)) c) + if σ.2.1 c 4 = 1 then 2 ^ c else 0))), (2, .int (nI (c + 1)))]) dX7_shipUp_25 rfl 2 rfl (nI_1 _) (by decide) rfl ?_
    refine zV_goto (tgt := 4) dX7_shipUp_28 rfl ?_
    rw [show bitsTo (fun c => decide (σ.2.1 c 4 = 1)) (c + 1) = ((bitsTo (fun c => decide (σ.2.1 c 4 = 1)) c) + if σ.2.1 c 4 = 1 then 2 ^ c else 0) by simp [bitsTo]] at ih
    exact ih

theorem wf_payM {B : Nat} {σ : aL} {s to : Nat} (m : Nat) (h : wfL B σ) (ht : to < 4) (hB : B + 2 < 1000000) : wfL (B + 2) (ld_pay σ s to m) := by
  refine ⟨h.1, fun c hc => ?_, h.2.2.1, hB⟩
  have h9 := h.2.1 c hc
  show wfK (B + 2) (if c < m ∧ s.testBit c = true then _ else _)
  split
  · exact wf_pay h9 hB ht
  · exact h9.up (by omega) hB
set_option maxRecDepth 100000 in
theorem m_paidAll {G : mG} {I : Nat → Nat → Int32} {J : Nat → Nat → Int64} {t : Nat} {B : Nat} {σ : aL} (hR : absR I 77 σ) (hW : wfL B σ) {s to : Nat} (hs : s < 2 ^ 31) (ht : to < 4) (hB : B + 2 < 1000000) : zC G yX7_paidAll (eX7_paidAll (g_rmv 5)) [.ref 76, .int (nI s), .int (nI to)] (mm I J t) (fun r M => ∃ I', r = some (.int (nI (ld_sum σ s))) ∧ M = mm I' J t ∧ absR I' 77 (ld_payA σ s to) ∧ frM I I') := by
  refine zC_of (by decide +kernel) rfl (by decide) (Nat.le_of_ble_eq_true rfl) ?_
  have n10 := hW.1
  show zV G (eX7_paidAll (g_rmv 5)) (0, 0) 0 [(0, .ref 76), (1, .int (nI s)), (2, .int (nI to))] [] (mm I J t) _
  refine zV_aload_n dX7_paidAll_0 rfl 0 rfl rfl ?_
  refine zV_iload_n dX7_paidAll_1 rfl 1 rfl rfl ?_
  refine zV_callV (E' := eX7_sumOf (g_rmv 4)) (av := [.int (nI s)]) (st := []) (b := 76) dX7_paidAll_2 rfl (k_RX7_142 _) rfl ⟨by decide, by decide⟩ ⟨by decide, by decide⟩ (Or.inl rfl) rfl (Nat.le_of_ble_eq_true rfl) rfl rfl rfl (m_sumOf (s := s) hR hW (by omega)) (fun r2 M2 z => ?_)
  obtain ⟨rfl, rfl⟩ := z
  show zV G (eX7_paidAll (g_rmv 5)) (0, 0) 5 [(0, .ref 76), (1, .int (nI s)), (2, .int (nI to))] [.int (nI (ld_sum σ s))] (mm I J t) _
  refine zV_istore_n (lv' := [(0, .ref 76), (1, .int (nI s)), (2, .int (nI to)), (3, .int (nI (ld_sum σ s)))]) dX7_paidAll_5 rfl rfl (by decide) rfl ?_
  refine zV_iconst (v := (nI 0)) dX7_paidAll_6 rfl rfl ?_
  refine zV_istore (lv' := [(0, .ref 76), (1, .int (nI s)), (2, .int (nI to)), (3, .int (nI (ld_sum σ s))), (4, .int (nI 0))]) dX7_paidAll_7 rfl (by decide) rfl ?_
  refine z_for (fun c => ∀ (I1 : Nat → Nat → Int32), (absR I1 77 (ld_pay σ s to c) ∧ frM I I1) → zV G (eX7_paidAll (g_rmv 5)) (0, 0) 9 [(0, .ref 76), (1, .int (nI s)), (2, .int (nI to)), (3, .int (nI (ld_sum σ s))), (4, .int (nI c))] [] (mm I1 J t) _) σ.1 ?_ ?_ 0 (Nat.zero_le _) I ⟨by rw [ld_pay_0]; exact hR, frM.rf⟩
  · intro I1 h1
    refine zV_iload dX7_paidAll_9 rfl 4 rfl ?_
    refine zV_aload_n dX7_paidAll_11 rfl 0 rfl rfl ?_
    refine zV_getr (q' := 77) 0 dX7_paidAll_12 rfl fl_RX7_9 rfl (by decide) rfl rfl ?_
    refine zV_iconst (v := (nI 1)) dX7_paidAll_15 rfl rfl ?_
    refine zV_iald (x := (nI σ.1)) 1 dX7_paidAll_16 rfl rfl rfl (by decide) (by decide) h1.1.2.1 ?_
    refine zN_icmp_ge (tgt := 42) dX7_paidAll_17 rfl rfl (by omega) (by omega) (fun _ => ?_) (fun z => absurd z (by omega))
    refine zV_iload_n dX7_paidAll_42 rfl 3 rfl rfl ?_
    exact zV_ireturn dX7_paidAll_43 rfl rfl (⟨I1, rfl, rfl, h1.1, h1.2⟩)
  · intro c hc ih
    intro I1 h1
    have w := hW.2.1 c hc
    obtain ⟨w0, w1, w2, w3, w4, w5, w6⟩ := id w
    have hW1 := wf_payM (s := s) (to := to) c hW ht hB
    refine zV_iload dX7_paidAll_9 rfl 4 rfl ?_
    refine zV_aload_n dX7_paidAll_11 rfl 0 rfl rfl ?_
    refine zV_getr (q' := 77) 0 dX7_paidAll_12 rfl fl_RX7_9 rfl (by decide) rfl rfl ?_
    refine zV_iconst (v := (nI 1)) dX7_paidAll_15 rfl rfl ?_
    refine zV_iald (x := (nI σ.1)) 1 dX7_paidAll_16 rfl rfl rfl (by decide) (by decide) h1.1.2.1 ?_
    refine zN_icmp_ge (tgt := 42) dX7_paidAll_17 rfl rfl (by omega) (by omega) (fun z => absurd z (by omega)) (fun _ => ?_)
    refine zV_iload_n dX7_paidAll_20 rfl 1 rfl rfl ?_
    refine zV_iload dX7_paidAll_21 rfl 4 rfl ?_
    refine zV_callS (E' := eX7_has (g_rmv 0)) (av := [.int (nI s), .int (nI c)]) (st := []) dX7_paidAll_23 rfl (k_RX7_133 _) rfl ⟨by decide, by decide⟩ ⟨by decide, by decide⟩ (Or.inl rfl) rfl (Nat.le_of_ble_eq_true rfl) (m_has (s := s) (c := c) (by omega) (by omega)) (fun r23 M23 z => ?_)
    obtain ⟨rfl, rfl⟩ := z
    show zV G (eX7_paidAll (g_rmv 5)) (0, 0) 26 [(0, .ref 76), (1, .int (nI s)), (2, .int (nI to)), (3, .int (nI (ld_sum σ s))), (4, .int (nI c))] [.int (b2 ((s).testBit c = true))] (mm I1 J t) _
    refine zB_if_eq (tgt := 36) dX7_paidAll_26 rfl rfl  (fun h26 => ?_) (fun h26 => ?_)
    · refine zV_iinc (y := (nI (c + 1))) (lv' := [(0, .ref 76), (1, .int (nI s)), (2, .int (nI to)), (3, .int (nI (ld_sum σ s))), (4, .int (nI (c + 1)))]) dX7_paidAll_36 rfl 4 rfl (nI_1 _) (by decide) rfl ?_
      refine zV_goto (tgt := 9) dX7_paidAll_39 rfl ?_
      exact ih I1 ⟨by rw [ld_pay_f h26]; exact h1.1, h1.2⟩
    · refine zV_aload_n dX7_paidAll_29 rfl 0 rfl rfl ?_
      refine zV_iload dX7_paidAll_30 rfl 4 rfl ?_
      refine zV_iload_n dX7_paidAll_32 rfl 2 rfl rfl ?_
      refine zV_callV (E' := eX7_paid (g_rmv 4)) (av := [.int (nI c), .int (nI to)]) (st := []) (b := 76) dX7_paidAll_33 rfl (k_RX7_155 _) rfl ⟨by decide, by decide⟩ ⟨by decide, by decide⟩ (Or.inl rfl) rfl (Nat.le_of_ble_eq_true rfl) rfl rfl rfl (m_paid (σ := ld_pay σ s to c) (c := c) (p := to) h1.1 hW1 hc ht) (fun r33 M33 z => ?_)
      obtain ⟨I33, rfl, rfl, hR33, hF33⟩ := z
      show zV G (eX7_paidAll (g_rmv 5)) (0, 0) 36 [(0, .ref 76), (1, .int (nI s)), (2, .int (nI to)), (3, .int (nI (ld_sum σ s))), (4, .int (nI c))] [] (mm I33 J t) _
      refine zV_iinc (y := (nI (c + 1))) (lv' := [(0, .ref 76), (1, .int (nI s)), (2, .int (nI to)), (3, .int (nI (ld_sum σ s))), (4, .int (nI (c + 1)))]) dX7_paidAll_36 rfl 4 rfl (nI_1 _) (by decide) rfl ?_
      refine zV_goto (tgt := 9) dX7_paidAll_39 rfl ?_
      exact ih I33 ⟨by rw [ld_pay_t h26]; rw [ld_pay_at] at hR33; exact hR33, h1.2.tr hF33⟩
