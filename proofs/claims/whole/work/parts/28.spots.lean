/-! spots, status, change: both classes -/
set_option maxRecDepth 100000 in
theorem p_hold {G : mG} {I : Nat → Nat → Int32} {J : Nat → Nat → Int64} {t : Nat} {B : Nat} {S : aS} (hC : InvC I S) (hw : wfS B S) {x y : Int32} : zC G yX6_hold (eX6_hold (g_rmv 2)) [.ref 0, .int x, .int y] (mm I J t) (fun r M => PC I (op_hold S x y) r M) := by
  refine zC_of (by decide +kernel) rfl (by decide) (Nat.le_of_ble_eq_true rfl) ?_
  have n10 := hw.1.1
  show zV G (eX6_hold (g_rmv 2)) (0, 0) 0 [(0, .ref 0), (1, .int x), (2, .int y)] [] (mm I J t) _
  refine zV_iload_n dX6_hold_0 rfl 1 rfl rfl ?_
  refine zV_bipush (v := (nI 9)) dX6_hold_1 rfl rfl ?_
  refine zV_callS (E' := eX6_isWithin (g_rmv 0)) (av := [.int x, .int (nI 9)]) (st := []) dX6_hold_3 rfl (k_RX6_65 _) rfl ⟨by decide, by decide⟩ ⟨by decide, by decide⟩ (Or.inl rfl) rfl (Nat.le_of_ble_eq_true rfl) (c_isWithin (x := x) (y := (nI 9))) (fun r3 M3 z => ?_)
  obtain ⟨rfl, rfl⟩ := z
  show zV G (eX6_hold (g_rmv 2)) (0, 0) 6 [(0, .ref 0), (1, .int x), (2, .int y)] [.int (b2 (0 ≤ x ∧ x ≤ (nI 9)))] (mm I J t) _
  refine zB_if_eq (tgt := 25) dX6_hold_6 rfl rfl  (fun h6 => ?_) (fun h6 => ?_)
  · refine zV_aload_n dX6_hold_25 rfl 0 rfl rfl ?_
    refine zV_ldc (v := (-1000001)) dX6_hold_26 rfl tw264 ?_
    refine zV_callV (E' := eX6_tell (g_rmv 1)) (av := [.int (-1000001)]) (st := []) (b := 0) dX6_hold_28 rfl (k_RX6_70 _) rfl ⟨by decide, by decide⟩ ⟨by decide, by decide⟩ (Or.inl rfl) rfl (Nat.le_of_ble_eq_true rfl) rfl rfl rfl (c_tell (w := 0) (by decide) (by decide)) (fun r28 M28 z => ?_)
    obtain ⟨rfl, rfl⟩ := z
    show zV G (eX6_hold (g_rmv 2)) (0, 0) 31 [(0, .ref 0), (1, .int x), (2, .int y)] [.int (fdg 0)] (mm (up2 I 67 0 (I 67 0 + nI 1)) J t) _
    exact zV_ireturn dX6_hold_31 rfl rfl (PC.tell hC hw (by unfold op_hold; rw [if_neg h6]) (fun _ _ => rfl))
  · obtain ⟨s, hs, rfl⟩ := (inR_iff (by decide)).mp h6
    refine zV_iload_n dX6_hold_9 rfl 2 rfl rfl ?_
    refine zV_iconst (v := (-1)) dX6_hold_10 rfl rfl ?_
    refine zV_icmp_eq (tgt := 32) dX6_hold_11 rfl rfl  (fun h11 => ?_) (fun h11 => ?_)
    · refine zV_aload_n dX6_hold_32 rfl 0 rfl rfl ?_
      refine zV_getr (q' := 1) 0 dX6_hold_33 rfl fl_RX6_12 rfl (by decide) rfl rfl ?_
      refine zV_getrX (q' := (1 + 2)) 1 dX6_hold_36 rfl fl_RX6_248 (sh_land (Or.inl rfl)) (by decide) rfl (R_spots (Or.inl rfl)) ?_
      refine zV_iload_n dX6_hold_39 rfl 1 rfl rfl ?_
      refine zV_iload_n dX6_hold_40 rfl 2 rfl rfl ?_
      refine zV_iastore s dX6_hold_41 rfl (sh_spots (Or.inl rfl)) rfl (by omega) (by decide)  ?_
      refine zV_iconst (v := (nI 1)) dX6_hold_42 rfl rfl ?_
      exact zV_ireturn dX6_hold_43 rfl rfl (PC.land hC hw (by unfold op_hold; rw [if_pos h6, if_pos h11, tn_nI (show s < 2 ^ 31 by omega)]) (hC.1.spot (b := 1)) (frL.sp (b := 1)).one)
    · refine zV_aload_n dX6_hold_14 rfl 0 rfl rfl ?_
      refine zV_getr (q' := 1) 0 dX6_hold_15 rfl fl_RX6_12 rfl (by decide) rfl rfl ?_
      refine zV_iload_n dX6_hold_18 rfl 2 rfl rfl ?_
      refine zV_callV (E' := eX1_hasCoin (g_rmv 0)) (av := [.int y]) (st := []) (b := 1) dX6_hold_19 rfl (k_RX6_82 _) rfl ⟨by decide, by decide⟩ ⟨by decide, by decide⟩ (Or.inl rfl) rfl (Nat.le_of_ble_eq_true rfl) (sh_land (Or.inl rfl)) rfl rfl (c_hasCoin (x := y) (Or.inl rfl) hC.1 hw.1) (fun r19 M19 z => ?_)
      obtain ⟨rfl, rfl⟩ := z
      show zV G (eX6_hold (g_rmv 2)) (0, 0) 22 [(0, .ref 0), (1, .int (nI s)), (2, .int y)] [.int (b2 (hasC S.1.1 y))] (mm I J t) _
      refine zB_if_ne (tgt := 32) dX6_hold_22 rfl rfl  (fun h22 => ?_) (fun h22 => ?_)
      · refine zV_aload_n dX6_hold_32 rfl 0 rfl rfl ?_
        refine zV_getr (q' := 1) 0 dX6_hold_33 rfl fl_RX6_12 rfl (by decide) rfl rfl ?_
        refine zV_getrX (q' := (1 + 2)) 1 dX6_hold_36 rfl fl_RX6_248 (sh_land (Or.inl rfl)) (by decide) rfl (R_spots (Or.inl rfl)) ?_
        refine zV_iload_n dX6_hold_39 rfl 1 rfl rfl ?_
        refine zV_iload_n dX6_hold_40 rfl 2 rfl rfl ?_
        refine zV_iastore s dX6_hold_41 rfl (sh_spots (Or.inl rfl)) rfl (by omega) (by decide)  ?_
        refine zV_iconst (v := (nI 1)) dX6_hold_42 rfl rfl ?_
        exact zV_ireturn dX6_hold_43 rfl rfl (PC.land hC hw (by unfold op_hold; rw [if_pos h6, if_neg h11, if_pos h22, tn_nI (show s < 2 ^ 31 by omega)]) (hC.1.spot (b := 1)) (frL.sp (b := 1)).one)
      · refine zV_aload_n dX6_hold_25 rfl 0 rfl rfl ?_
        refine zV_ldc (v := (-1000001)) dX6_hold_26 rfl tw264 ?_
        refine zV_callV (E' := eX6_tell (g_rmv 1)) (av := [.int (-1000001)]) (st := []) (b := 0) dX6_hold_28 rfl (k_RX6_70 _) rfl ⟨by decide, by decide⟩ ⟨by decide, by decide⟩ (Or.inl rfl) rfl (Nat.le_of_ble_eq_true rfl) rfl rfl rfl (c_tell (w := 0) (by decide) (by decide)) (fun r28 M28 z => ?_)
        obtain ⟨rfl, rfl⟩ := z
        show zV G (eX6_hold (g_rmv 2)) (0, 0) 31 [(0, .ref 0), (1, .int (nI s)), (2, .int y)] [.int (fdg 0)] (mm (up2 I 67 0 (I 67 0 + nI 1)) J t) _
        exact zV_ireturn dX6_hold_31 rfl rfl (PC.tell hC hw (by unfold op_hold; rw [if_pos h6, if_neg h11, if_neg h22]) (fun _ _ => rfl))

set_option maxRecDepth 100000 in
theorem q_hold {G : mG} {I : Nat → Nat → Int32} {J : Nat → Nat → Int64} {t : Nat} {B : Nat} {S : aS} (hM : InvM I S) (hw : wfS B S) {x y : Int32} : zC G yX7_hold (eX7_hold (g_rmv 2)) [.ref 76, .int x, .int y] (mm I J t) (fun r M => PM I (op_hold S x y) r M) := by
  refine zC_of (by decide +kernel) rfl (by decide) (Nat.le_of_ble_eq_true rfl) ?_
  have n10 := hw.1.1
  show zV G (eX7_hold (g_rmv 2)) (0, 0) 0 [(0, .ref 76), (1, .int x), (2, .int y)] [] (mm I J t) _
  refine zV_iload_n dX7_hold_0 rfl 1 rfl rfl ?_
  refine zV_callS (E' := eX7_isSpot (g_rmv 1)) (av := [.int x]) (st := []) dX7_hold_1 rfl (k_RX7_300 _) rfl ⟨by decide, by decide⟩ ⟨by decide, by decide⟩ (Or.inl rfl) rfl (Nat.le_of_ble_eq_true rfl) (m_isSpot (x := x)) (fun r1 M1 z => ?_)
  obtain ⟨rfl, rfl⟩ := z
  show zV G (eX7_hold (g_rmv 2)) (0, 0) 4 [(0, .ref 76), (1, .int x), (2, .int y)] [.int (b2 (inR x 9))] (mm I J t) _
  refine zB_if_eq (tgt := 20) dX7_hold_4 rfl rfl  (fun h4 => ?_) (fun h4 => ?_)
  · refine zV_aload_n dX7_hold_20 rfl 0 rfl rfl ?_
    refine zV_ldc (v := (-1000001)) dX7_hold_21 rfl tw970 ?_
    refine zV_callV (E' := eX7_finding (g_rmv 0)) (av := [.int (-1000001)]) (st := []) (b := 76) dX7_hold_23 rfl (k_RX7_87 _) rfl ⟨by decide, by decide⟩ ⟨by decide, by decide⟩ (Or.inl rfl) rfl (Nat.le_of_ble_eq_true rfl) rfl rfl rfl (m_finding (w := 0) (by decide) (by decide)) (fun r23 M23 z => ?_)
    obtain ⟨rfl, rfl⟩ := z
    show zV G (eX7_hold (g_rmv 2)) (0, 0) 26 [(0, .ref 76), (1, .int x), (2, .int y)] [.int (fdg 0)] (mm (mTell I 0) J t) _
    exact zV_ireturn dX7_hold_26 rfl rfl (PM.tell hM (by decide) (by unfold op_hold; rw [if_neg h4]) scM.rf)
  · obtain ⟨s, hs, rfl⟩ := (inR_iff (by decide)).mp h4
    refine zV_iload_n dX7_hold_7 rfl 2 rfl rfl ?_
    refine zV_iconst (v := (-1)) dX7_hold_8 rfl rfl ?_
    refine zV_icmp_eq (tgt := 27) dX7_hold_9 rfl rfl  (fun h9 => ?_) (fun h9 => ?_)
    · refine zV_aload_n dX7_hold_27 rfl 0 rfl rfl ?_
      refine zV_getr (q' := 77) 0 dX7_hold_28 rfl fl_RX7_9 rfl (by decide) rfl rfl ?_
      refine zV_iconst (v := (nI 3)) dX7_hold_31 rfl rfl ?_
      refine zV_iload_n dX7_hold_32 rfl 1 rfl rfl ?_
      refine zA_iadd (z := (nI (3 + s))) dX7_hold_33 rfl  (nI_add _ _) ?_
      refine zV_iload_n dX7_hold_34 rfl 2 rfl rfl ?_
      refine zV_iastore (3 + s) dX7_hold_35 rfl rfl rfl (by omega) (by decide)  ?_
      refine zV_iconst (v := (nI 1)) dX7_hold_36 rfl rfl ?_
      exact zV_ireturn dX7_hold_37 rfl rfl (PM.land hM (by unfold op_hold; rw [if_pos h4, if_pos h9, tn_nI (show s < 2 ^ 31 by omega)]) scM.rf (hM.1.spot (by omega)) frM.up)
    · refine zV_aload_n dX7_hold_12 rfl 0 rfl rfl ?_
      refine zV_iload_n dX7_hold_13 rfl 2 rfl rfl ?_
      refine zV_callV (E' := eX7_isCoin (g_rmv 1)) (av := [.int y]) (st := []) (b := 76) dX7_hold_14 rfl (k_RX7_124 _) rfl ⟨by decide, by decide⟩ ⟨by decide, by decide⟩ (Or.inl rfl) rfl (Nat.le_of_ble_eq_true rfl) rfl rfl rfl (m_isCoin (x := y) hM.1 hw.1) (fun r14 M14 z => ?_)
      obtain ⟨rfl, rfl⟩ := z
      show zV G (eX7_hold (g_rmv 2)) (0, 0) 17 [(0, .ref 76), (1, .int (nI s)), (2, .int y)] [.int (b2 (hasC S.1.1 y))] (mm I J t) _
      refine zB_if_ne (tgt := 27) dX7_hold_17 rfl rfl  (fun h17 => ?_) (fun h17 => ?_)
      · refine zV_aload_n dX7_hold_27 rfl 0 rfl rfl ?_
        refine zV_getr (q' := 77) 0 dX7_hold_28 rfl fl_RX7_9 rfl (by decide) rfl rfl ?_
        refine zV_iconst (v := (nI 3)) dX7_hold_31 rfl rfl ?_
        refine zV_iload_n dX7_hold_32 rfl 1 rfl rfl ?_
        refine zA_iadd (z := (nI (3 + s))) dX7_hold_33 rfl  (nI_add _ _) ?_
        refine zV_iload_n dX7_hold_34 rfl 2 rfl rfl ?_
        refine zV_iastore (3 + s) dX7_hold_35 rfl rfl rfl (by omega) (by decide)  ?_
        refine zV_iconst (v := (nI 1)) dX7_hold_36 rfl rfl ?_
        exact zV_ireturn dX7_hold_37 rfl rfl (PM.land hM (by unfold op_hold; rw [if_pos h4, if_neg h9, if_pos h17, tn_nI (show s < 2 ^ 31 by omega)]) scM.rf (hM.1.spot (by omega)) frM.up)
      · refine zV_aload_n dX7_hold_20 rfl 0 rfl rfl ?_
        refine zV_ldc (v := (-1000001)) dX7_hold_21 rfl tw970 ?_
        refine zV_callV (E' := eX7_finding (g_rmv 0)) (av := [.int (-1000001)]) (st := []) (b := 76) dX7_hold_23 rfl (k_RX7_87 _) rfl ⟨by decide, by decide⟩ ⟨by decide, by decide⟩ (Or.inl rfl) rfl (Nat.le_of_ble_eq_true rfl) rfl rfl rfl (m_finding (w := 0) (by decide) (by decide)) (fun r23 M23 z => ?_)
        obtain ⟨rfl, rfl⟩ := z
        show zV G (eX7_hold (g_rmv 2)) (0, 0) 26 [(0, .ref 76), (1, .int (nI s)), (2, .int y)] [.int (fdg 0)] (mm (mTell I 0) J t) _
        exact zV_ireturn dX7_hold_26 rfl rfl (PM.tell hM (by decide) (by unfold op_hold; rw [if_pos h4, if_neg h9, if_neg h17]) scM.rf)

set_option maxRecDepth 100000 in
theorem p_as {G : mG} {I : Nat → Nat → Int32} {J : Nat → Nat → Int64} {t : Nat} {B : Nat} {S : aS} (hC : InvC I S) (hw : wfS B S) {x y : Int32} : zC G yX6_as (eX6_as (g_rmv 2)) [.ref 0, .int x, .int y] (mm I J t) (fun r M => PC I (op_as S x y) r M) := by
  refine zC_of (by decide +kernel) rfl (by decide) (Nat.le_of_ble_eq_true rfl) ?_
  have n10 := hw.1.1
  show zV G (eX6_as (g_rmv 2)) (0, 0) 0 [(0, .ref 0), (1, .int x), (2, .int y)] [] (mm I J t) _
  refine zV_iload_n dX6_as_0 rfl 1 rfl rfl ?_
  refine zV_bipush (v := (nI 9)) dX6_as_1 rfl rfl ?_
  refine zV_callS (E' := eX6_isWithin (g_rmv 0)) (av := [.int x, .int (nI 9)]) (st := []) dX6_as_3 rfl (k_RX6_65 _) rfl ⟨by decide, by decide⟩ ⟨by decide, by decide⟩ (Or.inl rfl) rfl (Nat.le_of_ble_eq_true rfl) (c_isWithin (x := x) (y := (nI 9))) (fun r3 M3 z => ?_)
  obtain ⟨rfl, rfl⟩ := z
  show zV G (eX6_as (g_rmv 2)) (0, 0) 6 [(0, .ref 0), (1, .int x), (2, .int y)] [.int (b2 (0 ≤ x ∧ x ≤ (nI 9)))] (mm I J t) _
  refine zB_if_eq (tgt := 18) dX6_as_6 rfl rfl  (fun h6 => ?_) (fun h6 => ?_)
  · refine zV_aload_n dX6_as_18 rfl 0 rfl rfl ?_
    refine zV_ldc (v := (-1000001)) dX6_as_19 rfl tw264 ?_
    refine zV_callV (E' := eX6_tell (g_rmv 1)) (av := [.int (-1000001)]) (st := []) (b := 0) dX6_as_21 rfl (k_RX6_70 _) rfl ⟨by decide, by decide⟩ ⟨by decide, by decide⟩ (Or.inl rfl) rfl (Nat.le_of_ble_eq_true rfl) rfl rfl rfl (c_tell (w := 0) (by decide) (by decide)) (fun r21 M21 z => ?_)
    obtain ⟨rfl, rfl⟩ := z
    show zV G (eX6_as (g_rmv 2)) (0, 0) 24 [(0, .ref 0), (1, .int x), (2, .int y)] [.int (fdg 0)] (mm (up2 I 67 0 (I 67 0 + nI 1)) J t) _
    exact zV_ireturn dX6_as_24 rfl rfl (PC.tell hC hw (by unfold op_as; rw [if_neg h6]) (fun _ _ => rfl))
  · refine zV_iload_n dX6_as_9 rfl 2 rfl rfl ?_
    refine zV_bipush (v := (nI 6)) dX6_as_10 rfl rfl ?_
    refine zV_callS (E' := eX6_isWithin (g_rmv 0)) (av := [.int y, .int (nI 6)]) (st := []) dX6_as_12 rfl (k_RX6_65 _) rfl ⟨by decide, by decide⟩ ⟨by decide, by decide⟩ (Or.inl rfl) rfl (Nat.le_of_ble_eq_true rfl) (c_isWithin (x := y) (y := (nI 6))) (fun r12 M12 z => ?_)
    obtain ⟨rfl, rfl⟩ := z
    show zV G (eX6_as (g_rmv 2)) (0, 0) 15 [(0, .ref 0), (1, .int x), (2, .int y)] [.int (b2 (0 ≤ y ∧ y ≤ (nI 6)))] (mm I J t) _
    refine zB_if_ne (tgt := 25) dX6_as_15 rfl rfl  (fun h15 => ?_) (fun h15 => ?_)
    · obtain ⟨s, hs, rfl⟩ := (inR_iff (by decide)).mp h6
      obtain ⟨k, hk, rfl⟩ := (inR_iff (by decide)).mp h15
      refine zV_aload_n dX6_as_25 rfl 0 rfl rfl ?_
      refine zV_getr (q' := 1) 0 dX6_as_26 rfl fl_RX6_12 rfl (by decide) rfl rfl ?_
      refine zV_getrX (q' := (1 + 2)) 1 dX6_as_29 rfl fl_RX6_248 (sh_land (Or.inl rfl)) (by decide) rfl (R_spots (Or.inl rfl)) ?_
      refine zV_iload_n dX6_as_32 rfl 1 rfl rfl ?_
      refine zV_iald (x := (S.1.2.2.1 s)) s dX6_as_33 rfl (sh_spots (Or.inl rfl)) rfl (by omega) (by decide) (hC.1.2.2.1 s (by omega)) ?_
      refine zV_istore_n (lv' := [(0, .ref 0), (1, .int (nI s)), (2, .int (nI k)), (3, .int (S.1.2.2.1 s))]) dX6_as_34 rfl rfl (by decide) rfl ?_
      refine zV_aload_n dX6_as_35 rfl 0 rfl rfl ?_
      refine zV_getr (q' := 1) 0 dX6_as_36 rfl fl_RX6_12 rfl (by decide) rfl rfl ?_
      refine zV_iload_n dX6_as_39 rfl 3 rfl rfl ?_
      refine zV_callV (E' := eX1_hasCoin (g_rmv 0)) (av := [.int (S.1.2.2.1 s)]) (st := []) (b := 1) dX6_as_40 rfl (k_RX6_82 _) rfl ⟨by decide, by decide⟩ ⟨by decide, by decide⟩ (Or.inl rfl) rfl (Nat.le_of_ble_eq_true rfl) (sh_land (Or.inl rfl)) rfl rfl (c_hasCoin (x := (S.1.2.2.1 s)) (Or.inl rfl) hC.1 hw.1) (fun r40 M40 z => ?_)
      obtain ⟨rfl, rfl⟩ := z
      show zV G (eX6_as (g_rmv 2)) (0, 0) 43 [(0, .ref 0), (1, .int (nI s)), (2, .int (nI k)), (3, .int (S.1.2.2.1 s))] [.int (b2 (hasC S.1.1 (S.1.2.2.1 s)))] (mm I J t) _
      refine zB_if_ne (tgt := 53) dX6_as_43 rfl rfl  (fun h43 => ?_) (fun h43 => ?_)
      · obtain ⟨c, hc, e⟩ := z_has n10 h43
        rw [e]
        refine zV_aload_n dX6_as_53 rfl 0 rfl rfl ?_
        refine zV_getr (q' := 1) 0 dX6_as_54 rfl fl_RX6_12 rfl (by decide) rfl rfl ?_
        refine zV_getrX (q' := (1 + 1)) 0 dX6_as_57 rfl fl_RX6_86 (sh_land (Or.inl rfl)) (by decide) rfl (R_coins (Or.inl rfl)) ?_
        refine zV_iload_n dX6_as_60 rfl 3 rfl rfl ?_
        refine zV_aaload (q' := (1 + 3 + c)) c dX6_as_61 rfl (sh_coins (Or.inl rfl)) rfl (by decide) rfl (by omega) (by decide) (R_coin (Or.inl rfl) (by omega)) ?_
        refine zV_iload_n dX6_as_62 rfl 2 rfl rfl ?_
        refine zV_callV (E' := eX0_isA (g_rmv 0)) (av := [.int (nI k)]) (st := []) (b := (1 + 3 + c)) dX6_as_63 rfl (k_RX6_252 _) rfl ⟨by decide, by decide⟩ ⟨by decide, by decide⟩ (Or.inl rfl) rfl (Nat.le_of_ble_eq_true rfl) (sh_coin (Or.inl rfl) (by omega)) rfl rfl (c_isA (w := k) (sh_coin (Or.inl rfl) (by omega)) (hC.1.2.1 c hc) (hw.1.2.1 c hc) (by omega)) (fun r63 M63 z => ?_)
        obtain ⟨rfl, rfl⟩ := z
        show zV G (eX6_as (g_rmv 2)) (0, 0) 66 [(0, .ref 0), (1, .int (nI s)), (2, .int (nI k)), (3, .int (nI c))] [.int (b2 (k_isA (S.1.2.1 c 0) k = true))] (mm I J t) _
        refine zB_if_eq (tgt := 73) dX6_as_66 rfl rfl  (fun h66 => ?_) (fun h66 => ?_)
        · refine zV_aload_n dX6_as_73 rfl 0 rfl rfl ?_
          refine zV_ldc (v := (-1000003)) dX6_as_74 rfl tw787 ?_
          refine zV_callV (E' := eX6_tell (g_rmv 1)) (av := [.int (-1000003)]) (st := []) (b := 0) dX6_as_76 rfl (k_RX6_70 _) rfl ⟨by decide, by decide⟩ ⟨by decide, by decide⟩ (Or.inl rfl) rfl (Nat.le_of_ble_eq_true rfl) rfl rfl rfl (c_tell (w := 2) (by decide) (by decide)) (fun r76 M76 z => ?_)
          obtain ⟨rfl, rfl⟩ := z
          show zV G (eX6_as (g_rmv 2)) (0, 0) 79 [(0, .ref 0), (1, .int (nI s)), (2, .int (nI k)), (3, .int (nI c))] [.int (fdg 2)] (mm (up2 I 67 2 (I 67 2 + nI 1)) J t) _
          exact zV_ireturn dX6_as_79 rfl rfl (PC.tell hC hw (by unfold op_as; rw [if_pos h6, if_pos h15, tn_nI (show s < 2 ^ 31 by omega), if_pos h43, e, tn_nI (show c < 2 ^ 31 by omega), tn_nI (show k < 2 ^ 31 by omega), if_neg h66]) (fun _ _ => rfl))
        · refine zV_iload_n dX6_as_69 rfl 3 rfl rfl ?_
          refine zV_goto (tgt := 79) dX6_as_70 rfl ?_
          exact zV_ireturn dX6_as_79 rfl rfl (PC.same hC hw (by unfold op_as; rw [if_pos h6, if_pos h15, tn_nI (show s < 2 ^ 31 by omega), if_pos h43, e, tn_nI (show c < 2 ^ 31 by omega), tn_nI (show k < 2 ^ 31 by omega), if_pos h66]) (fun _ _ => rfl))
      · refine zV_aload_n dX6_as_46 rfl 0 rfl rfl ?_
        refine zV_ldc (v := (-1000006)) dX6_as_47 rfl tw780 ?_
        refine zV_callV (E' := eX6_tell (g_rmv 1)) (av := [.int (-1000006)]) (st := []) (b := 0) dX6_as_49 rfl (k_RX6_70 _) rfl ⟨by decide, by decide⟩ ⟨by decide, by decide⟩ (Or.inl rfl) rfl (Nat.le_of_ble_eq_true rfl) rfl rfl rfl (c_tell (w := 5) (by decide) (by decide)) (fun r49 M49 z => ?_)
        obtain ⟨rfl, rfl⟩ := z
        show zV G (eX6_as (g_rmv 2)) (0, 0) 52 [(0, .ref 0), (1, .int (nI s)), (2, .int (nI k)), (3, .int (S.1.2.2.1 s))] [.int (fdg 5)] (mm (up2 I 67 5 (I 67 5 + nI 1)) J t) _
        exact zV_ireturn dX6_as_52 rfl rfl (PC.tell hC hw (by unfold op_as; rw [if_pos h6, if_pos h15, tn_nI (show s < 2 ^ 31 by omega), if_neg h43]) (fun _ _ => rfl))
    · refine zV_aload_n dX6_as_18 rfl 0 rfl rfl ?_
      refine zV_ldc (v := (-1000001)) dX6_as_19 rfl tw264 ?_
      refine zV_callV (E' := eX6_tell (g_rmv 1)) (av := [.int (-1000001)]) (st := []) (b := 0) dX6_as_21 rfl (k_RX6_70 _) rfl ⟨by decide, by decide⟩ ⟨by decide, by decide⟩ (Or.inl rfl) rfl (Nat.le_of_ble_eq_true rfl) rfl rfl rfl (c_tell (w := 0) (by decide) (by decide)) (fun r21 M21 z => ?_)
      obtain ⟨rfl, rfl⟩ := z
      show zV G (eX6_as (g_rmv 2)) (0, 0) 24 [(0, .ref 0), (1, .int x), (2, .int y)] [.int (fdg 0)] (mm (up2 I 67 0 (I 67 0 + nI 1)) J t) _
      exact zV_ireturn dX6_as_24 rfl rfl (PC.tell hC hw (by unfold op_as; rw [if_pos h6, if_neg h15]) (fun _ _ => rfl))

set_option maxRecDepth 100000 in
theorem q_as {G : mG} {I : Nat → Nat → Int32} {J : Nat → Nat → Int64} {t : Nat} {B : Nat} {S : aS} (hM : InvM I S) (hw : wfS B S) {x y : Int32} : zC G yX7_as (eX7_as (g_rmv 2)) [.ref 76, .int x, .int y] (mm I J t) (fun r M => PM I (op_as S x y) r M) := by
  refine zC_of (by decide +kernel) rfl (by decide) (Nat.le_of_ble_eq_true rfl) ?_
  have n10 := hw.1.1
  show zV G (eX7_as (g_rmv 2)) (0, 0) 0 [(0, .ref 76), (1, .int x), (2, .int y)] [] (mm I J t) _
  refine zV_iload_n dX7_as_0 rfl 1 rfl rfl ?_
  refine zV_callS (E' := eX7_isSpot (g_rmv 1)) (av := [.int x]) (st := []) dX7_as_1 rfl (k_RX7_300 _) rfl ⟨by decide, by decide⟩ ⟨by decide, by decide⟩ (Or.inl rfl) rfl (Nat.le_of_ble_eq_true rfl) (m_isSpot (x := x)) (fun r1 M1 z => ?_)
  obtain ⟨rfl, rfl⟩ := z
  show zV G (eX7_as (g_rmv 2)) (0, 0) 4 [(0, .ref 76), (1, .int x), (2, .int y)] [.int (b2 (inR x 9))] (mm I J t) _
  refine zB_if_eq (tgt := 14) dX7_as_4 rfl rfl  (fun h4 => ?_) (fun h4 => ?_)
  · refine zV_aload_n dX7_as_14 rfl 0 rfl rfl ?_
    refine zV_ldc (v := (-1000001)) dX7_as_15 rfl tw970 ?_
    refine zV_callV (E' := eX7_finding (g_rmv 0)) (av := [.int (-1000001)]) (st := []) (b := 76) dX7_as_17 rfl (k_RX7_87 _) rfl ⟨by decide, by decide⟩ ⟨by decide, by decide⟩ (Or.inl rfl) rfl (Nat.le_of_ble_eq_true rfl) rfl rfl rfl (m_finding (w := 0) (by decide) (by decide)) (fun r17 M17 z => ?_)
    obtain ⟨rfl, rfl⟩ := z
    show zV G (eX7_as (g_rmv 2)) (0, 0) 20 [(0, .ref 76), (1, .int x), (2, .int y)] [.int (fdg 0)] (mm (mTell I 0) J t) _
    exact zV_ireturn dX7_as_20 rfl rfl (PM.tell hM (by decide) (by unfold op_as; rw [if_neg h4]) scM.rf)
  · refine zV_iload_n dX7_as_7 rfl 2 rfl rfl ?_
    refine zV_callS (E' := eX7_isKind (g_rmv 1)) (av := [.int y]) (st := []) dX7_as_8 rfl (k_RX7_84 _) rfl ⟨by decide, by decide⟩ ⟨by decide, by decide⟩ (Or.inl rfl) rfl (Nat.le_of_ble_eq_true rfl) (m_isKind (x := y)) (fun r8 M8 z => ?_)
    obtain ⟨rfl, rfl⟩ := z
    show zV G (eX7_as (g_rmv 2)) (0, 0) 11 [(0, .ref 76), (1, .int x), (2, .int y)] [.int (b2 (inR y 6))] (mm I J t) _
    refine zB_if_ne (tgt := 21) dX7_as_11 rfl rfl  (fun h11 => ?_) (fun h11 => ?_)
    · obtain ⟨s, hs, rfl⟩ := (inR_iff (by decide)).mp h4
      obtain ⟨k, hk, rfl⟩ := (inR_iff (by decide)).mp h11
      refine zV_aload_n dX7_as_21 rfl 0 rfl rfl ?_
      refine zV_getr (q' := 77) 0 dX7_as_22 rfl fl_RX7_9 rfl (by decide) rfl rfl ?_
      refine zV_iconst (v := (nI 3)) dX7_as_25 rfl rfl ?_
      refine zV_iload_n dX7_as_26 rfl 1 rfl rfl ?_
      refine zA_iadd (z := (nI (3 + s))) dX7_as_27 rfl  (nI_add _ _) ?_
      refine zV_iald (x := (S.1.2.2.1 s)) (3 + s) dX7_as_28 rfl rfl rfl (by omega) (by decide) (hM.1.2.2.2.1 s (by omega)) ?_
      refine zV_istore_n (lv' := [(0, .ref 76), (1, .int (nI s)), (2, .int (nI k)), (3, .int (S.1.2.2.1 s))]) dX7_as_29 rfl rfl (by decide) rfl ?_
      rcases hw.2.2.2.2.2.2.1 s (by omega) with e | ⟨c, hc, e⟩
      · rw [e]
        refine zV_iload_n dX7_as_30 rfl 3 rfl rfl ?_
        refine zV_if_ge (tgt := 42) dX7_as_31 rfl rfl  (fun z => absurd z (by decide)) (fun _ => ?_)
        refine zV_aload_n dX7_as_34 rfl 0 rfl rfl ?_
        refine zV_ldcw (v := (-1000006)) dX7_as_35 rfl tw1329 ?_
        refine zV_callV (E' := eX7_finding (g_rmv 0)) (av := [.int (-1000006)]) (st := []) (b := 76) dX7_as_38 rfl (k_RX7_87 _) rfl ⟨by decide, by decide⟩ ⟨by decide, by decide⟩ (Or.inl rfl) rfl (Nat.le_of_ble_eq_true rfl) rfl rfl rfl (m_finding (w := 5) (by decide) (by decide)) (fun r38 M38 z => ?_)
        obtain ⟨rfl, rfl⟩ := z
        show zV G (eX7_as (g_rmv 2)) (0, 0) 41 [(0, .ref 76), (1, .int (nI s)), (2, .int (nI k)), (3, .int (-1))] [.int (fdg 5)] (mm (mTell I 5) J t) _
        exact zV_ireturn dX7_as_41 rfl rfl (PM.tell hM (by decide) (by unfold op_as; rw [if_pos h4, if_pos h11, tn_nI (show s < 2 ^ 31 by omega), e, if_neg (show ¬ hasC S.1.1 (-1) from fun q => absurd q.1 (by decide))]) scM.rf)
      · rw [e]
        have w := hw.1.2.1 c hc
        obtain ⟨w0, w1, w2, w3, w4, w5, w6⟩ := id w
        refine zV_iload_n dX7_as_30 rfl 3 rfl rfl ?_
        refine zN_if_ge (tgt := 42) dX7_as_31 rfl (by omega) rfl ?_
        refine zV_aload_n dX7_as_42 rfl 0 rfl rfl ?_
        refine zV_iload_n dX7_as_43 rfl 3 rfl rfl ?_
        refine zV_iconst (v := (nI 0)) dX7_as_44 rfl rfl ?_
        refine zV_callV (E' := eX7_coinIs (g_rmv 1)) (av := [.int (nI c), .int (nI 0)]) (st := []) (b := 76) dX7_as_45 rfl (k_RX7_99 _) rfl ⟨by decide, by decide⟩ ⟨by decide, by decide⟩ (Or.inl rfl) rfl (Nat.le_of_ble_eq_true rfl) rfl rfl rfl (m_coinIs (c := c) (f := 0) hM.1 hw.1 hc (by decide)) (fun r45 M45 z => ?_)
        obtain ⟨rfl, rfl⟩ := z
        show zV G (eX7_as (g_rmv 2)) (0, 0) 48 [(0, .ref 76), (1, .int (nI s)), (2, .int (nI k)), (3, .int (nI c))] [.int (nI (S.1.2.1 c 0))] (mm I J t) _
        refine zV_iload_n dX7_as_48 rfl 2 rfl rfl ?_
        refine zV_callS (E' := eX7_isUnder (g_rmv 1)) (av := [.int (nI (S.1.2.1 c 0)), .int (nI k)]) (st := []) dX7_as_49 rfl (k_RX7_110 _) rfl ⟨by decide, by decide⟩ ⟨by decide, by decide⟩ (Or.inl rfl) rfl (Nat.le_of_ble_eq_true rfl) (m_isUnder (kd := (S.1.2.1 c 0)) (w := k) (by omega) (by omega)) (fun r49 M49 z => ?_)
        obtain ⟨rfl, rfl⟩ := z
        show zV G (eX7_as (g_rmv 2)) (0, 0) 52 [(0, .ref 76), (1, .int (nI s)), (2, .int (nI k)), (3, .int (nI c))] [.int (b2 (k_isA (S.1.2.1 c 0) k = true))] (mm I J t) _
        refine zB_if_eq (tgt := 59) dX7_as_52 rfl rfl  (fun h52 => ?_) (fun h52 => ?_)
        · refine zV_aload_n dX7_as_59 rfl 0 rfl rfl ?_
          refine zV_ldcw (v := (-1000003)) dX7_as_60 rfl tw1330 ?_
          refine zV_callV (E' := eX7_finding (g_rmv 0)) (av := [.int (-1000003)]) (st := []) (b := 76) dX7_as_63 rfl (k_RX7_87 _) rfl ⟨by decide, by decide⟩ ⟨by decide, by decide⟩ (Or.inl rfl) rfl (Nat.le_of_ble_eq_true rfl) rfl rfl rfl (m_finding (w := 2) (by decide) (by decide)) (fun r63 M63 z => ?_)
          obtain ⟨rfl, rfl⟩ := z
          show zV G (eX7_as (g_rmv 2)) (0, 0) 66 [(0, .ref 76), (1, .int (nI s)), (2, .int (nI k)), (3, .int (nI c))] [.int (fdg 2)] (mm (mTell I 2) J t) _
          exact zV_ireturn dX7_as_66 rfl rfl (PM.tell hM (by decide) (by unfold op_as; rw [if_pos h4, if_pos h11, tn_nI (show s < 2 ^ 31 by omega), e, if_pos (show hasC S.1.1 (nI c) from ⟨nI_pos' (by omega), nI_lt hc (by omega)⟩), tn_nI (show c < 2 ^ 31 by omega), tn_nI (show k < 2 ^ 31 by omega), if_neg h52]) scM.rf)
        · refine zV_iload_n dX7_as_55 rfl 3 rfl rfl ?_
          refine zV_goto (tgt := 66) dX7_as_56 rfl ?_
          exact zV_ireturn dX7_as_66 rfl rfl (PM.same hM (by unfold op_as; rw [if_pos h4, if_pos h11, tn_nI (show s < 2 ^ 31 by omega), e, if_pos (show hasC S.1.1 (nI c) from ⟨nI_pos' (by omega), nI_lt hc (by omega)⟩), tn_nI (show c < 2 ^ 31 by omega), tn_nI (show k < 2 ^ 31 by omega), if_pos h52]) scM.rf)
    · refine zV_aload_n dX7_as_14 rfl 0 rfl rfl ?_
      refine zV_ldc (v := (-1000001)) dX7_as_15 rfl tw970 ?_
      refine zV_callV (E' := eX7_finding (g_rmv 0)) (av := [.int (-1000001)]) (st := []) (b := 76) dX7_as_17 rfl (k_RX7_87 _) rfl ⟨by decide, by decide⟩ ⟨by decide, by decide⟩ (Or.inl rfl) rfl (Nat.le_of_ble_eq_true rfl) rfl rfl rfl (m_finding (w := 0) (by decide) (by decide)) (fun r17 M17 z => ?_)
      obtain ⟨rfl, rfl⟩ := z
      show zV G (eX7_as (g_rmv 2)) (0, 0) 20 [(0, .ref 76), (1, .int x), (2, .int y)] [.int (fdg 0)] (mm (mTell I 0) J t) _
      exact zV_ireturn dX7_as_20 rfl rfl (PM.tell hM (by decide) (by unfold op_as; rw [if_pos h4, if_neg h11]) scM.rf)

theorem z_nm1 {a : Nat} (h : a < 2 ^ 31) : ¬ nI a = -1 := fun z => by
  have z1 := congrArg Int32.toInt z
  rw [nI_toInt h, show (-1 : Int32).toInt = -1 from rfl] at z1
  omega
set_option maxRecDepth 100000 in
theorem p_status {G : mG} {I : Nat → Nat → Int32} {J : Nat → Nat → Int64} {t : Nat} {B : Nat} {S : aS} (hC : InvC I S) (hw : wfS B S) {x : Int32} : zC G yX6_status (eX6_status (g_rmv 2)) [.ref 0, .int x] (mm I J t) (fun r M => PC I (op_status S x) r M) := by
  refine zC_of (by decide +kernel) rfl (by decide) (Nat.le_of_ble_eq_true rfl) ?_
  have n10 := hw.1.1
  show zV G (eX6_status (g_rmv 2)) (0, 0) 0 [(0, .ref 0), (1, .int x)] [] (mm I J t) _
  refine zV_iload_n dX6_status_0 rfl 1 rfl rfl ?_
  refine zV_iconst (v := (-1)) dX6_status_1 rfl rfl ?_
  refine zV_icmp_lt (tgt := 11) dX6_status_2 rfl rfl  (fun h2 => ?_) (fun h2 => ?_)
  · refine zV_aload_n dX6_status_11 rfl 0 rfl rfl ?_
    refine zV_ldc (v := (-1000001)) dX6_status_12 rfl tw264 ?_
    refine zV_callV (E' := eX6_tell (g_rmv 1)) (av := [.int (-1000001)]) (st := []) (b := 0) dX6_status_14 rfl (k_RX6_70 _) rfl ⟨by decide, by decide⟩ ⟨by decide, by decide⟩ (Or.inl rfl) rfl (Nat.le_of_ble_eq_true rfl) rfl rfl rfl (c_tell (w := 0) (by decide) (by decide)) (fun r14 M14 z => ?_)
    obtain ⟨rfl, rfl⟩ := z
    show zV G (eX6_status (g_rmv 2)) (0, 0) 17 [(0, .ref 0), (1, .int x)] [.int (fdg 0)] (mm (up2 I 67 0 (I 67 0 + nI 1)) J t) _
    exact zV_ireturn dX6_status_17 rfl rfl (PC.tell hC hw (by unfold op_status; rw [if_neg (fun q => (Int32.not_le.mpr h2) q.1)]) (fun _ _ => rfl))
  · refine zV_iload_n dX6_status_5 rfl 1 rfl rfl ?_
    refine zV_bipush (v := (nI 7)) dX6_status_6 rfl rfl ?_
    refine zV_icmp_lt (tgt := 18) dX6_status_8 rfl rfl  (fun h8 => ?_) (fun h8 => ?_)
    · rcases z_stat (show -1 ≤ x ∧ x ≤ nI 6 from ⟨Int32.not_lt.mp h2, by have z := Int32.lt_iff_toInt_lt.mp h8; rw [nI_toInt (by decide)] at z; rw [Int32.le_iff_toInt_le, nI_toInt (by decide)]; omega⟩) with rfl | ⟨a, ha, rfl⟩
      · skip
        refine zV_iload_n dX6_status_18 rfl 1 rfl rfl ?_
        refine zV_if_lt (tgt := 29) dX6_status_19 rfl rfl  (fun _ => ?_) (fun z => absurd z (by decide))
        refine zV_iconst (v := (nI 0)) dX6_status_29 rfl rfl ?_
        refine zV_istore_n (lv' := [(0, .ref 0), (1, .int (-1)), (2, .int (nI 0))]) dX6_status_30 rfl rfl (by decide) rfl ?_
        refine zV_iconst (v := (nI 0)) dX6_status_31 rfl rfl ?_
        refine zV_istore_n (lv' := [(0, .ref 0), (1, .int (-1)), (2, .int (nI 0)), (3, .int (nI 0))]) dX6_status_32 rfl rfl (by decide) rfl ?_
        refine z_for (fun c => zV G (eX6_status (g_rmv 2)) (0, 0) 33 [(0, .ref 0), (1, .int (-1)), (2, .int (f_sum S.2.2.2.2.1 c)), (3, .int (nI c))] [] (mm I J t) _) 7 ?_ ?_ 0 (Nat.zero_le _)
        · skip
          refine zV_iload_n dX6_status_33 rfl 3 rfl rfl ?_
          refine zV_bipush (v := (nI 7)) dX6_status_34 rfl rfl ?_
          refine zN_icmp_ge (tgt := 54) dX6_status_36 rfl rfl (by omega) (by omega) (fun _ => ?_) (fun z => absurd z (by omega))
          refine zV_iload_n dX6_status_54 rfl 2 rfl rfl ?_
          exact zV_ireturn dX6_status_55 rfl rfl (PC.same hC hw (by unfold op_status; rw [if_pos (by decide), if_pos rfl]) (fun _ _ => rfl))
        · intro c hc ih
          refine zV_iload_n dX6_status_33 rfl 3 rfl rfl ?_
          refine zV_bipush (v := (nI 7)) dX6_status_34 rfl rfl ?_
          refine zN_icmp_ge (tgt := 54) dX6_status_36 rfl rfl (by omega) (by omega) (fun z => absurd z (by omega)) (fun _ => ?_)
          refine zV_iload_n dX6_status_39 rfl 2 rfl rfl ?_
          refine zV_aload_n dX6_status_40 rfl 0 rfl rfl ?_
          refine zV_getr (q' := 67) 10 dX6_status_41 rfl fl_RX6_61 rfl (by decide) rfl rfl ?_
          refine zV_iload_n dX6_status_44 rfl 3 rfl rfl ?_
          refine zV_iald (x := (S.2.2.2.2.1 c)) c dX6_status_45 rfl rfl rfl (by omega) (by decide) (hC.2.2.2.2.2.1 c (by omega)) ?_
          refine zA_iadd (z := ((f_sum S.2.2.2.2.1 c) + (S.2.2.2.2.1 c))) dX6_status_46 rfl  (rfl) ?_
          refine zV_istore_n (lv' := [(0, .ref 0), (1, .int (-1)), (2, .int ((f_sum S.2.2.2.2.1 c) + (S.2.2.2.2.1 c))), (3, .int (nI c))]) dX6_status_47 rfl rfl (by decide) rfl ?_
          refine zV_iinc (y := (nI (c + 1))) (lv' := [(0, .ref 0), (1, .int (-1)), (2, .int ((f_sum S.2.2.2.2.1 c) + (S.2.2.2.2.1 c))), (3, .int (nI (c + 1)))]) dX6_status_48 rfl 3 rfl (nI_1 _) (by decide) rfl ?_
          refine zV_goto (tgt := 33) dX6_status_51 rfl ?_
          exact ih
      · skip
        refine zV_iload_n dX6_status_18 rfl 1 rfl rfl ?_
        refine zN_if_lt (tgt := 29) dX6_status_19 rfl (by omega) rfl ?_
        refine zV_aload_n dX6_status_22 rfl 0 rfl rfl ?_
        refine zV_getr (q' := 67) 10 dX6_status_23 rfl fl_RX6_61 rfl (by decide) rfl rfl ?_
        refine zV_iload_n dX6_status_26 rfl 1 rfl rfl ?_
        refine zV_iald (x := (S.2.2.2.2.1 a)) a dX6_status_27 rfl rfl rfl (by omega) (by decide) (hC.2.2.2.2.2.1 a (by omega)) ?_
        exact zV_ireturn dX6_status_28 rfl rfl (PC.same hC hw (by unfold op_status; rw [if_pos (show -1 ≤ nI a ∧ nI a ≤ nI 6 from ⟨Int32.le_iff_toInt_le.mpr (by rw [nI_toInt (by omega), show (-1 : Int32).toInt = -1 from rfl]; omega), nI_le (by omega) (by decide)⟩), if_neg (z_nm1 (by omega)), tn_nI (show a < 2 ^ 31 by omega)]) (fun _ _ => rfl))
    · refine zV_aload_n dX6_status_11 rfl 0 rfl rfl ?_
      refine zV_ldc (v := (-1000001)) dX6_status_12 rfl tw264 ?_
      refine zV_callV (E' := eX6_tell (g_rmv 1)) (av := [.int (-1000001)]) (st := []) (b := 0) dX6_status_14 rfl (k_RX6_70 _) rfl ⟨by decide, by decide⟩ ⟨by decide, by decide⟩ (Or.inl rfl) rfl (Nat.le_of_ble_eq_true rfl) rfl rfl rfl (c_tell (w := 0) (by decide) (by decide)) (fun r14 M14 z => ?_)
      obtain ⟨rfl, rfl⟩ := z
      show zV G (eX6_status (g_rmv 2)) (0, 0) 17 [(0, .ref 0), (1, .int x)] [.int (fdg 0)] (mm (up2 I 67 0 (I 67 0 + nI 1)) J t) _
      exact zV_ireturn dX6_status_17 rfl rfl (PC.tell hC hw (by unfold op_status; rw [if_neg (fun q => (Int32.not_le.mpr (by have z := Int32.le_iff_toInt_le.mp (Int32.not_lt.mp h8); rw [nI_toInt (by decide)] at z; rw [Int32.lt_iff_toInt_lt, nI_toInt (by decide)]; omega)) q.2)]) (fun _ _ => rfl))

set_option maxRecDepth 100000 in
theorem q_status {G : mG} {I : Nat → Nat → Int32} {J : Nat → Nat → Int64} {t : Nat} {B : Nat} {S : aS} (hM : InvM I S) (hw : wfS B S) {x : Int32} : zC G yX7_status (eX7_status (g_rmv 1)) [.ref 76, .int x] (mm I J t) (fun r M => PM I (op_status S x) r M) := by
  refine zC_of (by decide +kernel) rfl (by decide) (Nat.le_of_ble_eq_true rfl) ?_
  have n10 := hw.1.1
  show zV G (eX7_status (g_rmv 1)) (0, 0) 0 [(0, .ref 76), (1, .int x)] [] (mm I J t) _
  refine zV_iload_n dX7_status_0 rfl 1 rfl rfl ?_
  refine zV_iconst (v := (-1)) dX7_status_1 rfl rfl ?_
  refine zV_bipush (v := (nI 6)) dX7_status_2 rfl rfl ?_
  refine zV_callS (E' := eX7_within (g_rmv 0)) (av := [.int x, .int (-1), .int (nI 6)]) (st := []) dX7_status_4 rfl (k_RX7_72 _) rfl ⟨by decide, by decide⟩ ⟨by decide, by decide⟩ (Or.inl rfl) rfl (Nat.le_of_ble_eq_true rfl) (m_within (x := x) (y := (-1)) (z := (nI 6))) (fun r4 M4 z => ?_)
  obtain ⟨rfl, rfl⟩ := z
  show zV G (eX7_status (g_rmv 1)) (0, 0) 7 [(0, .ref 76), (1, .int x)] [.int (b2 ((-1) ≤ x ∧ x ≤ (nI 6)))] (mm I J t) _
  refine zB_if_eq (tgt := 21) dX7_status_7 rfl rfl  (fun h7 => ?_) (fun h7 => ?_)
  · refine zV_aload_n dX7_status_21 rfl 0 rfl rfl ?_
    refine zV_ldc (v := (-1000001)) dX7_status_22 rfl tw970 ?_
    refine zV_callV (E' := eX7_finding (g_rmv 0)) (av := [.int (-1000001)]) (st := []) (b := 76) dX7_status_24 rfl (k_RX7_87 _) rfl ⟨by decide, by decide⟩ ⟨by decide, by decide⟩ (Or.inl rfl) rfl (Nat.le_of_ble_eq_true rfl) rfl rfl rfl (m_finding (w := 0) (by decide) (by decide)) (fun r24 M24 z => ?_)
    obtain ⟨rfl, rfl⟩ := z
    show zV G (eX7_status (g_rmv 1)) (0, 0) 27 [(0, .ref 76), (1, .int x)] [.int (fdg 0)] (mm (mTell I 0) J t) _
    exact zV_ireturn dX7_status_27 rfl rfl (PM.tell hM (by decide) (by unfold op_status; rw [if_neg h7]) scM.rf)
  · rcases z_stat h7 with rfl | ⟨a, ha, rfl⟩
    · skip
      refine zV_aload_n dX7_status_10 rfl 0 rfl rfl ?_
      refine zV_getr (q' := 80) 4 dX7_status_11 rfl fl_RX7_19 rfl (by decide) rfl rfl ?_
      refine zV_iload_n dX7_status_14 rfl 1 rfl rfl ?_
      refine zV_iconst (v := (nI 1)) dX7_status_15 rfl rfl ?_
      refine zA_iadd (z := (nI 0)) dX7_status_16 rfl  (by decide) ?_
      refine zV_iald (x := (f_sum S.2.2.2.2.1 7)) 0 dX7_status_17 rfl rfl rfl (by decide) (by decide) (by rw [f_sum7]; exact hM.2.2.2.2.2.1.1) ?_
      refine zV_goto (tgt := 27) dX7_status_18 rfl ?_
      exact zV_ireturn dX7_status_27 rfl rfl (PM.same hM (by unfold op_status; rw [if_pos h7, if_pos rfl]) scM.rf)
    · skip
      refine zV_aload_n dX7_status_10 rfl 0 rfl rfl ?_
      refine zV_getr (q' := 80) 4 dX7_status_11 rfl fl_RX7_19 rfl (by decide) rfl rfl ?_
      refine zV_iload_n dX7_status_14 rfl 1 rfl rfl ?_
      refine zV_iconst (v := (nI 1)) dX7_status_15 rfl rfl ?_
      refine zA_iadd (z := (nI (a + 1))) dX7_status_16 rfl  (nI_add _ _) ?_
      refine zV_iald (x := (S.2.2.2.2.1 a)) (a + 1) dX7_status_17 rfl rfl rfl (by omega) (by decide) (hM.2.2.2.2.2.1.2 a (by omega)) ?_
      refine zV_goto (tgt := 27) dX7_status_18 rfl ?_
      exact zV_ireturn dX7_status_27 rfl rfl (PM.same hM (by unfold op_status; rw [if_pos h7, if_neg (z_nm1 (by omega)), tn_nI (show a < 2 ^ 31 by omega)]) scM.rf)

set_option maxRecDepth 100000 in
theorem q_change {G : mG} {I : Nat → Nat → Int32} {J : Nat → Nat → Int64} {t : Nat} {B : Nat} {S : aS} (hM : InvM I S) (hw : wfS B S) {x y v : Int32} : zC G yX7_change (eX7_change (g_rmv 2)) [.ref 76, .int x, .int y, .int v] (mm I J t) (fun r M => PM I (op_change S x y v) r M) := by
  refine zC_of (by decide +kernel) rfl (by decide) (Nat.le_of_ble_eq_true rfl) ?_
  have n10 := hw.1.1
  show zV G (eX7_change (g_rmv 2)) (0, 0) 0 [(0, .ref 76), (1, .int x), (2, .int y), (3, .int v)] [] (mm I J t) _
  refine zV_iload_n dX7_change_0 rfl 2 rfl rfl ?_
  refine zV_if_ne (tgt := 9) dX7_change_1 rfl rfl  (fun h1 => ?_) (fun h1 => ?_)
  · skip
    refine zV_iload_n dX7_change_9 rfl 2 rfl rfl ?_
    refine zV_iconst (v := (nI 1)) dX7_change_10 rfl rfl ?_
    refine zV_icmp_ne (tgt := 18) dX7_change_11 rfl rfl  (fun h11 => ?_) (fun h11 => ?_)
    · skip
      refine zV_iload_n dX7_change_18 rfl 2 rfl rfl ?_
      refine zV_iconst (v := (nI 4)) dX7_change_19 rfl rfl ?_
      refine zV_icmp_ne (tgt := 27) dX7_change_20 rfl rfl  (fun h20 => ?_) (fun h20 => ?_)
      · skip
        refine zV_bipush (v := (nI 99)) dX7_change_27 rfl rfl ?_
        refine zV_istore (lv' := [(0, .ref 76), (1, .int x), (2, .int y), (3, .int v), (4, .int (nI 99))]) dX7_change_29 rfl (by decide) rfl ?_
        refine zV_iload_n dX7_change_31 rfl 2 rfl rfl ?_
        refine zV_iconst (v := (nI 0)) dX7_change_32 rfl rfl ?_
        refine zV_iconst (v := (nI 4)) dX7_change_33 rfl rfl ?_
        refine zV_callS (E' := eX7_within (g_rmv 0)) (av := [.int y, .int (nI 0), .int (nI 4)]) (st := []) dX7_change_34 rfl (k_RX7_72 _) rfl ⟨by decide, by decide⟩ ⟨by decide, by decide⟩ (Or.inl rfl) rfl (Nat.le_of_ble_eq_true rfl) (m_within (x := y) (y := (nI 0)) (z := (nI 4))) (fun r34 M34 z => ?_)
        obtain ⟨rfl, rfl⟩ := z
        show zV G (eX7_change (g_rmv 2)) (0, 0) 37 [(0, .ref 76), (1, .int x), (2, .int y), (3, .int v), (4, .int (nI 99))] [.int (b2 (inR y 4))] (mm I J t) _
        refine zB_if_eq (tgt := 54) dX7_change_37 rfl rfl  (fun h37 => ?_) (fun h37 => ?_)
        · refine zV_iconst (v := (nI 0)) dX7_change_54 rfl rfl ?_
          refine zV_istore (lv' := [(0, .ref 76), (1, .int x), (2, .int y), (3, .int v), (4, .int (nI 99)), (5, .int (nI 0))]) dX7_change_55 rfl (by decide) rfl ?_
          refine zV_aload_n dX7_change_57 rfl 0 rfl rfl ?_
          refine zV_iload_n dX7_change_58 rfl 1 rfl rfl ?_
          refine zV_callV (E' := eX7_isCoin (g_rmv 1)) (av := [.int x]) (st := []) (b := 76) dX7_change_59 rfl (k_RX7_124 _) rfl ⟨by decide, by decide⟩ ⟨by decide, by decide⟩ (Or.inl rfl) rfl (Nat.le_of_ble_eq_true rfl) rfl rfl rfl (m_isCoin (x := x) hM.1 hw.1) (fun r59 M59 z => ?_)
          obtain ⟨rfl, rfl⟩ := z
          show zV G (eX7_change (g_rmv 2)) (0, 0) 62 [(0, .ref 76), (1, .int x), (2, .int y), (3, .int v), (4, .int (nI 99)), (5, .int (nI 0))] [.int (b2 (hasC S.1.1 x))] (mm I J t) _
          refine zB_if_eq (tgt := 83) dX7_change_62 rfl rfl  (fun h62 => ?_) (fun h62 => ?_)
          · refine zV_aload_n dX7_change_83 rfl 0 rfl rfl ?_
            refine zV_ldc (v := (-1000001)) dX7_change_84 rfl tw970 ?_
            refine zV_callV (E' := eX7_finding (g_rmv 0)) (av := [.int (-1000001)]) (st := []) (b := 76) dX7_change_86 rfl (k_RX7_87 _) rfl ⟨by decide, by decide⟩ ⟨by decide, by decide⟩ (Or.inl rfl) rfl (Nat.le_of_ble_eq_true rfl) rfl rfl rfl (m_finding (w := 0) (by decide) (by decide)) (fun r86 M86 z => ?_)
            obtain ⟨rfl, rfl⟩ := z
            show zV G (eX7_change (g_rmv 2)) (0, 0) 89 [(0, .ref 76), (1, .int x), (2, .int y), (3, .int v), (4, .int (nI 99)), (5, .int (nI 0))] [.int (fdg 0)] (mm (mTell I 0) J t) _
            exact zV_ireturn dX7_change_89 rfl rfl (PM.tell hM (by decide) (by unfold op_change; rw [if_neg h62]) scM.rf)
          · refine zV_iload dX7_change_65 rfl 5 rfl ?_
            refine zN_if_eq (tgt := 83) dX7_change_67 rfl rfl (by decide) (fun _ => ?_) (fun z => absurd z (by decide))
            refine zV_aload_n dX7_change_83 rfl 0 rfl rfl ?_
            refine zV_ldc (v := (-1000001)) dX7_change_84 rfl tw970 ?_
            refine zV_callV (E' := eX7_finding (g_rmv 0)) (av := [.int (-1000001)]) (st := []) (b := 76) dX7_change_86 rfl (k_RX7_87 _) rfl ⟨by decide, by decide⟩ ⟨by decide, by decide⟩ (Or.inl rfl) rfl (Nat.le_of_ble_eq_true rfl) rfl rfl rfl (m_finding (w := 0) (by decide) (by decide)) (fun r86 M86 z => ?_)
            obtain ⟨rfl, rfl⟩ := z
            show zV G (eX7_change (g_rmv 2)) (0, 0) 89 [(0, .ref 76), (1, .int x), (2, .int y), (3, .int v), (4, .int (nI 99)), (5, .int (nI 0))] [.int (fdg 0)] (mm (mTell I 0) J t) _
            exact zV_ireturn dX7_change_89 rfl rfl (PM.tell hM (by decide) (by unfold op_change; rw [if_pos h62, if_neg (z_mst' h37)]) scM.rf)
        · refine zV_iload_n dX7_change_40 rfl 3 rfl rfl ?_
          refine zV_iconst (v := (nI 0)) dX7_change_41 rfl rfl ?_
          refine zV_iload dX7_change_42 rfl 4 rfl ?_
          refine zV_callS (E' := eX7_within (g_rmv 0)) (av := [.int v, .int (nI 0), .int (nI 99)]) (st := []) dX7_change_44 rfl (k_RX7_72 _) rfl ⟨by decide, by decide⟩ ⟨by decide, by decide⟩ (Or.inl rfl) rfl (Nat.le_of_ble_eq_true rfl) (m_within (x := v) (y := (nI 0)) (z := (nI 99))) (fun r44 M44 z => ?_)
          obtain ⟨rfl, rfl⟩ := z
          show zV G (eX7_change (g_rmv 2)) (0, 0) 47 [(0, .ref 76), (1, .int x), (2, .int y), (3, .int v), (4, .int (nI 99))] [.int (b2 (inR v 99))] (mm I J t) _
          refine zB_if_eq (tgt := 54) dX7_change_47 rfl rfl  (fun h47 => ?_) (fun h47 => ?_)
          · refine zV_iconst (v := (nI 0)) dX7_change_54 rfl rfl ?_
            refine zV_istore (lv' := [(0, .ref 76), (1, .int x), (2, .int y), (3, .int v), (4, .int (nI 99)), (5, .int (nI 0))]) dX7_change_55 rfl (by decide) rfl ?_
            refine zV_aload_n dX7_change_57 rfl 0 rfl rfl ?_
            refine zV_iload_n dX7_change_58 rfl 1 rfl rfl ?_
            refine zV_callV (E' := eX7_isCoin (g_rmv 1)) (av := [.int x]) (st := []) (b := 76) dX7_change_59 rfl (k_RX7_124 _) rfl ⟨by decide, by decide⟩ ⟨by decide, by decide⟩ (Or.inl rfl) rfl (Nat.le_of_ble_eq_true rfl) rfl rfl rfl (m_isCoin (x := x) hM.1 hw.1) (fun r59 M59 z => ?_)
            obtain ⟨rfl, rfl⟩ := z
            show zV G (eX7_change (g_rmv 2)) (0, 0) 62 [(0, .ref 76), (1, .int x), (2, .int y), (3, .int v), (4, .int (nI 99)), (5, .int (nI 0))] [.int (b2 (hasC S.1.1 x))] (mm I J t) _
            refine zB_if_eq (tgt := 83) dX7_change_62 rfl rfl  (fun h62 => ?_) (fun h62 => ?_)
            · refine zV_aload_n dX7_change_83 rfl 0 rfl rfl ?_
              refine zV_ldc (v := (-1000001)) dX7_change_84 rfl tw970 ?_
              refine zV_callV (E' := eX7_finding (g_rmv 0)) (av := [.int (-1000001)]) (st := []) (b := 76) dX7_change_86 rfl (k_RX7_87 _) rfl ⟨by decide, by decide⟩ ⟨by decide, by decide⟩ (Or.inl rfl) rfl (Nat.le_of_ble_eq_true rfl) rfl rfl rfl (m_finding (w := 0) (by decide) (by decide)) (fun r86 M86 z => ?_)
              obtain ⟨rfl, rfl⟩ := z
              show zV G (eX7_change (g_rmv 2)) (0, 0) 89 [(0, .ref 76), (1, .int x), (2, .int y), (3, .int v), (4, .int (nI 99)), (5, .int (nI 0))] [.int (fdg 0)] (mm (mTell I 0) J t) _
              exact zV_ireturn dX7_change_89 rfl rfl (PM.tell hM (by decide) (by unfold op_change; rw [if_neg h62]) scM.rf)
            · refine zV_iload dX7_change_65 rfl 5 rfl ?_
              refine zN_if_eq (tgt := 83) dX7_change_67 rfl rfl (by decide) (fun _ => ?_) (fun z => absurd z (by decide))
              refine zV_aload_n dX7_change_83 rfl 0 rfl rfl ?_
              refine zV_ldc (v := (-1000001)) dX7_change_84 rfl tw970 ?_
              refine zV_callV (E' := eX7_finding (g_rmv 0)) (av := [.int (-1000001)]) (st := []) (b := 76) dX7_change_86 rfl (k_RX7_87 _) rfl ⟨by decide, by decide⟩ ⟨by decide, by decide⟩ (Or.inl rfl) rfl (Nat.le_of_ble_eq_true rfl) rfl rfl rfl (m_finding (w := 0) (by decide) (by decide)) (fun r86 M86 z => ?_)
              obtain ⟨rfl, rfl⟩ := z
              show zV G (eX7_change (g_rmv 2)) (0, 0) 89 [(0, .ref 76), (1, .int x), (2, .int y), (3, .int v), (4, .int (nI 99)), (5, .int (nI 0))] [.int (fdg 0)] (mm (mTell I 0) J t) _
              exact zV_ireturn dX7_change_89 rfl rfl (PM.tell hM (by decide) (by unfold op_change; rw [if_pos h62, z_mst h37, if_neg (show ¬ y = nI 0 from h1), if_neg h11, if_neg h20, if_neg h47]) scM.rf)
          · refine zV_iconst (v := (nI 1)) dX7_change_50 rfl rfl ?_
            refine zV_goto (tgt := 55) dX7_change_51 rfl ?_
            refine zV_istore (lv' := [(0, .ref 76), (1, .int x), (2, .int y), (3, .int v), (4, .int (nI 99)), (5, .int (nI 1))]) dX7_change_55 rfl (by decide) rfl ?_
            refine zV_aload_n dX7_change_57 rfl 0 rfl rfl ?_
            refine zV_iload_n dX7_change_58 rfl 1 rfl rfl ?_
            refine zV_callV (E' := eX7_isCoin (g_rmv 1)) (av := [.int x]) (st := []) (b := 76) dX7_change_59 rfl (k_RX7_124 _) rfl ⟨by decide, by decide⟩ ⟨by decide, by decide⟩ (Or.inl rfl) rfl (Nat.le_of_ble_eq_true rfl) rfl rfl rfl (m_isCoin (x := x) hM.1 hw.1) (fun r59 M59 z => ?_)
            obtain ⟨rfl, rfl⟩ := z
            show zV G (eX7_change (g_rmv 2)) (0, 0) 62 [(0, .ref 76), (1, .int x), (2, .int y), (3, .int v), (4, .int (nI 99)), (5, .int (nI 1))] [.int (b2 (hasC S.1.1 x))] (mm I J t) _
            refine zB_if_eq (tgt := 83) dX7_change_62 rfl rfl  (fun h62 => ?_) (fun h62 => ?_)
            · refine zV_aload_n dX7_change_83 rfl 0 rfl rfl ?_
              refine zV_ldc (v := (-1000001)) dX7_change_84 rfl tw970 ?_
              refine zV_callV (E' := eX7_finding (g_rmv 0)) (av := [.int (-1000001)]) (st := []) (b := 76) dX7_change_86 rfl (k_RX7_87 _) rfl ⟨by decide, by decide⟩ ⟨by decide, by decide⟩ (Or.inl rfl) rfl (Nat.le_of_ble_eq_true rfl) rfl rfl rfl (m_finding (w := 0) (by decide) (by decide)) (fun r86 M86 z => ?_)
              obtain ⟨rfl, rfl⟩ := z
              show zV G (eX7_change (g_rmv 2)) (0, 0) 89 [(0, .ref 76), (1, .int x), (2, .int y), (3, .int v), (4, .int (nI 99)), (5, .int (nI 1))] [.int (fdg 0)] (mm (mTell I 0) J t) _
              exact zV_ireturn dX7_change_89 rfl rfl (PM.tell hM (by decide) (by unfold op_change; rw [if_neg h62]) scM.rf)
            · have hq : 0 ≤ v ∧ v ≤ mostOf y := by rw [z_mst h37, if_neg (show ¬ y = nI 0 from h1), if_neg h11, if_neg h20]; exact h47
              obtain ⟨c, hc, rfl⟩ := z_has n10 h62
              obtain ⟨f, a, hf, ha, rfl, rfl⟩ := z_most hq
              refine zV_iload dX7_change_65 rfl 5 rfl ?_
              refine zN_if_eq (tgt := 83) dX7_change_67 rfl rfl (by decide) (fun z => absurd z (by decide)) (fun _ => ?_)
              refine zV_aload_n dX7_change_70 rfl 0 rfl rfl ?_
              refine zV_iload_n dX7_change_71 rfl 1 rfl rfl ?_
              refine zV_iload_n dX7_change_72 rfl 2 rfl rfl ?_
              refine zV_callS (E' := eX7_at (g_rmv 0)) (av := [.int (nI c), .int (nI f)]) (st := [.ref 76]) dX7_change_73 rfl (k_RX7_80 _) rfl ⟨by decide, by decide⟩ ⟨by decide, by decide⟩ (Or.inl rfl) rfl (Nat.le_of_ble_eq_true rfl) (m_at (c := c) (f := f)) (fun r73 M73 z => ?_)
              obtain ⟨rfl, rfl⟩ := z
              show zV G (eX7_change (g_rmv 2)) (0, 0) 76 [(0, .ref 76), (1, .int (nI c)), (2, .int (nI f)), (3, .int (nI a)), (4, .int (nI 99)), (5, .int (nI 1))] [.int (nI (13 + 6 * c + f)), .ref 76] (mm I J t) _
              refine zV_iload_n dX7_change_76 rfl 3 rfl rfl ?_
              refine zV_callV (E' := eX7_become (g_rmv 0)) (av := [.int (nI (13 + 6 * c + f)), .int (nI a)]) (st := []) (b := 76) dX7_change_77 rfl (k_RX7_130 _) rfl ⟨by decide, by decide⟩ ⟨by decide, by decide⟩ (Or.inl rfl) rfl (Nat.le_of_ble_eq_true rfl) rfl rfl rfl (m_become (a := (13 + 6 * c + f)) (v := (nI a)) (by omega)) (fun r77 M77 z => ?_)
              obtain ⟨rfl, rfl⟩ := z
              show zV G (eX7_change (g_rmv 2)) (0, 0) 80 [(0, .ref 76), (1, .int (nI c)), (2, .int (nI f)), (3, .int (nI a)), (4, .int (nI 99)), (5, .int (nI 1))] [.int (I 77 (13 + 6 * c + f))] (mm (up2 I 77 (13 + 6 * c + f) (nI a)) J t) _
              refine zV_goto (tgt := 89) dX7_change_80 rfl ?_
              exact zV_ireturn dX7_change_89 rfl rfl (PM.land hM (by unfold op_change; rw [if_pos h62, if_pos hq, tn_nI (show c < 2 ^ 31 by omega), tn_nI (show f < 2 ^ 31 by omega), tn_nI (show a < 2 ^ 31 by omega), hM.1.2.2.2.2 c hc f (by omega)]) scM.rf (hM.1.set (by omega)) frM.up)
      · skip
        refine zV_iconst (v := (nI 1)) dX7_change_23 rfl rfl ?_
        refine zV_goto (tgt := 29) dX7_change_24 rfl ?_
        refine zV_istore (lv' := [(0, .ref 76), (1, .int x), (2, .int y), (3, .int v), (4, .int (nI 1))]) dX7_change_29 rfl (by decide) rfl ?_
        refine zV_iload_n dX7_change_31 rfl 2 rfl rfl ?_
        refine zV_iconst (v := (nI 0)) dX7_change_32 rfl rfl ?_
        refine zV_iconst (v := (nI 4)) dX7_change_33 rfl rfl ?_
        refine zV_callS (E' := eX7_within (g_rmv 0)) (av := [.int y, .int (nI 0), .int (nI 4)]) (st := []) dX7_change_34 rfl (k_RX7_72 _) rfl ⟨by decide, by decide⟩ ⟨by decide, by decide⟩ (Or.inl rfl) rfl (Nat.le_of_ble_eq_true rfl) (m_within (x := y) (y := (nI 0)) (z := (nI 4))) (fun r34 M34 z => ?_)
        obtain ⟨rfl, rfl⟩ := z
        show zV G (eX7_change (g_rmv 2)) (0, 0) 37 [(0, .ref 76), (1, .int x), (2, .int y), (3, .int v), (4, .int (nI 1))] [.int (b2 (inR y 4))] (mm I J t) _
        refine zB_if_eq (tgt := 54) dX7_change_37 rfl rfl  (fun h37 => ?_) (fun h37 => ?_)
        · refine zV_iconst (v := (nI 0)) dX7_change_54 rfl rfl ?_
          refine zV_istore (lv' := [(0, .ref 76), (1, .int x), (2, .int y), (3, .int v), (4, .int (nI 1)), (5, .int (nI 0))]) dX7_change_55 rfl (by decide) rfl ?_
          refine zV_aload_n dX7_change_57 rfl 0 rfl rfl ?_
          refine zV_iload_n dX7_change_58 rfl 1 rfl rfl ?_
          refine zV_callV (E' := eX7_isCoin (g_rmv 1)) (av := [.int x]) (st := []) (b := 76) dX7_change_59 rfl (k_RX7_124 _) rfl ⟨by decide, by decide⟩ ⟨by decide, by decide⟩ (Or.inl rfl) rfl (Nat.le_of_ble_eq_true rfl) rfl rfl rfl (m_isCoin (x := x) hM.1 hw.1) (fun r59 M59 z => ?_)
          obtain ⟨rfl, rfl⟩ := z
          show zV G (eX7_change (g_rmv 2)) (0, 0) 62 [(0, .ref 76), (1, .int x), (2, .int y), (3, .int v), (4, .int (nI 1)), (5, .int (nI 0))] [.int (b2 (hasC S.1.1 x))] (mm I J t) _
          refine zB_if_eq (tgt := 83) dX7_change_62 rfl rfl  (fun h62 => ?_) (fun h62 => ?_)
          · refine zV_aload_n dX7_change_83 rfl 0 rfl rfl ?_
            refine zV_ldc (v := (-1000001)) dX7_change_84 rfl tw970 ?_
            refine zV_callV (E' := eX7_finding (g_rmv 0)) (av := [.int (-1000001)]) (st := []) (b := 76) dX7_change_86 rfl (k_RX7_87 _) rfl ⟨by decide, by decide⟩ ⟨by decide, by decide⟩ (Or.inl rfl) rfl (Nat.le_of_ble_eq_true rfl) rfl rfl rfl (m_finding (w := 0) (by decide) (by decide)) (fun r86 M86 z => ?_)
            obtain ⟨rfl, rfl⟩ := z
            show zV G (eX7_change (g_rmv 2)) (0, 0) 89 [(0, .ref 76), (1, .int x), (2, .int y), (3, .int v), (4, .int (nI 1)), (5, .int (nI 0))] [.int (fdg 0)] (mm (mTell I 0) J t) _
            exact zV_ireturn dX7_change_89 rfl rfl (PM.tell hM (by decide) (by unfold op_change; rw [if_neg h62]) scM.rf)
          · refine zV_iload dX7_change_65 rfl 5 rfl ?_
            refine zN_if_eq (tgt := 83) dX7_change_67 rfl rfl (by decide) (fun _ => ?_) (fun z => absurd z (by decide))
            refine zV_aload_n dX7_change_83 rfl 0 rfl rfl ?_
            refine zV_ldc (v := (-1000001)) dX7_change_84 rfl tw970 ?_
            refine zV_callV (E' := eX7_finding (g_rmv 0)) (av := [.int (-1000001)]) (st := []) (b := 76) dX7_change_86 rfl (k_RX7_87 _) rfl ⟨by decide, by decide⟩ ⟨by decide, by decide⟩ (Or.inl rfl) rfl (Nat.le_of_ble_eq_true rfl) rfl rfl rfl (m_finding (w := 0) (by decide) (by decide)) (fun r86 M86 z => ?_)
            obtain ⟨rfl, rfl⟩ := z
            show zV G (eX7_change (g_rmv 2)) (0, 0) 89 [(0, .ref 76), (1, .int x), (2, .int y), (3, .int v), (4, .int (nI 1)), (5, .int (nI 0))] [.int (fdg 0)] (mm (mTell I 0) J t) _
            exact zV_ireturn dX7_change_89 rfl rfl (PM.tell hM (by decide) (by unfold op_change; rw [if_pos h62, if_neg (z_mst' h37)]) scM.rf)
        · refine zV_iload_n dX7_change_40 rfl 3 rfl rfl ?_
          refine zV_iconst (v := (nI 0)) dX7_change_41 rfl rfl ?_
          refine zV_iload dX7_change_42 rfl 4 rfl ?_
          refine zV_callS (E' := eX7_within (g_rmv 0)) (av := [.int v, .int (nI 0), .int (nI 1)]) (st := []) dX7_change_44 rfl (k_RX7_72 _) rfl ⟨by decide, by decide⟩ ⟨by decide, by decide⟩ (Or.inl rfl) rfl (Nat.le_of_ble_eq_true rfl) (m_within (x := v) (y := (nI 0)) (z := (nI 1))) (fun r44 M44 z => ?_)
          obtain ⟨rfl, rfl⟩ := z
          show zV G (eX7_change (g_rmv 2)) (0, 0) 47 [(0, .ref 76), (1, .int x), (2, .int y), (3, .int v), (4, .int (nI 1))] [.int (b2 (inR v 1))] (mm I J t) _
          refine zB_if_eq (tgt := 54) dX7_change_47 rfl rfl  (fun h47 => ?_) (fun h47 => ?_)
          · refine zV_iconst (v := (nI 0)) dX7_change_54 rfl rfl ?_
            refine zV_istore (lv' := [(0, .ref 76), (1, .int x), (2, .int y), (3, .int v), (4, .int (nI 1)), (5, .int (nI 0))]) dX7_change_55 rfl (by decide) rfl ?_
            refine zV_aload_n dX7_change_57 rfl 0 rfl rfl ?_
            refine zV_iload_n dX7_change_58 rfl 1 rfl rfl ?_
            refine zV_callV (E' := eX7_isCoin (g_rmv 1)) (av := [.int x]) (st := []) (b := 76) dX7_change_59 rfl (k_RX7_124 _) rfl ⟨by decide, by decide⟩ ⟨by decide, by decide⟩ (Or.inl rfl) rfl (Nat.le_of_ble_eq_true rfl) rfl rfl rfl (m_isCoin (x := x) hM.1 hw.1) (fun r59 M59 z => ?_)
            obtain ⟨rfl, rfl⟩ := z
            show zV G (eX7_change (g_rmv 2)) (0, 0) 62 [(0, .ref 76), (1, .int x), (2, .int y), (3, .int v), (4, .int (nI 1)), (5, .int (nI 0))] [.int (b2 (hasC S.1.1 x))] (mm I J t) _
            refine zB_if_eq (tgt := 83) dX7_change_62 rfl rfl  (fun h62 => ?_) (fun h62 => ?_)
            · refine zV_aload_n dX7_change_83 rfl 0 rfl rfl ?_
              refine zV_ldc (v := (-1000001)) dX7_change_84 rfl tw970 ?_
              refine zV_callV (E' := eX7_finding (g_rmv 0)) (av := [.int (-1000001)]) (st := []) (b := 76) dX7_change_86 rfl (k_RX7_87 _) rfl ⟨by decide, by decide⟩ ⟨by decide, by decide⟩ (Or.inl rfl) rfl (Nat.le_of_ble_eq_true rfl) rfl rfl rfl (m_finding (w := 0) (by decide) (by decide)) (fun r86 M86 z => ?_)
              obtain ⟨rfl, rfl⟩ := z
              show zV G (eX7_change (g_rmv 2)) (0, 0) 89 [(0, .ref 76), (1, .int x), (2, .int y), (3, .int v), (4, .int (nI 1)), (5, .int (nI 0))] [.int (fdg 0)] (mm (mTell I 0) J t) _
              exact zV_ireturn dX7_change_89 rfl rfl (PM.tell hM (by decide) (by unfold op_change; rw [if_neg h62]) scM.rf)
            · refine zV_iload dX7_change_65 rfl 5 rfl ?_
              refine zN_if_eq (tgt := 83) dX7_change_67 rfl rfl (by decide) (fun _ => ?_) (fun z => absurd z (by decide))
              refine zV_aload_n dX7_change_83 rfl 0 rfl rfl ?_
              refine zV_ldc (v := (-1000001)) dX7_change_84 rfl tw970 ?_
              refine zV_callV (E' := eX7_finding (g_rmv 0)) (av := [.int (-1000001)]) (st := []) (b := 76) dX7_change_86 rfl (k_RX7_87 _) rfl ⟨by decide, by decide⟩ ⟨by decide, by decide⟩ (Or.inl rfl) rfl (Nat.le_of_ble_eq_true rfl) rfl rfl rfl (m_finding (w := 0) (by decide) (by decide)) (fun r86 M86 z => ?_)
              obtain ⟨rfl, rfl⟩ := z
              show zV G (eX7_change (g_rmv 2)) (0, 0) 89 [(0, .ref 76), (1, .int x), (2, .int y), (3, .int v), (4, .int (nI 1)), (5, .int (nI 0))] [.int (fdg 0)] (mm (mTell I 0) J t) _
              exact zV_ireturn dX7_change_89 rfl rfl (PM.tell hM (by decide) (by unfold op_change; rw [if_pos h62, z_mst h37, if_neg (show ¬ y = nI 0 from h1), if_neg h11, if_pos h20, if_neg h47]) scM.rf)
          · refine zV_iconst (v := (nI 1)) dX7_change_50 rfl rfl ?_
            refine zV_goto (tgt := 55) dX7_change_51 rfl ?_
            refine zV_istore (lv' := [(0, .ref 76), (1, .int x), (2, .int y), (3, .int v), (4, .int (nI 1)), (5, .int (nI 1))]) dX7_change_55 rfl (by decide) rfl ?_
            refine zV_aload_n dX7_change_57 rfl 0 rfl rfl ?_
            refine zV_iload_n dX7_change_58 rfl 1 rfl rfl ?_
            refine zV_callV (E' := eX7_isCoin (g_rmv 1)) (av := [.int x]) (st := []) (b := 76) dX7_change_59 rfl (k_RX7_124 _) rfl ⟨by decide, by decide⟩ ⟨by decide, by decide⟩ (Or.inl rfl) rfl (Nat.le_of_ble_eq_true rfl) rfl rfl rfl (m_isCoin (x := x) hM.1 hw.1) (fun r59 M59 z => ?_)
            obtain ⟨rfl, rfl⟩ := z
            show zV G (eX7_change (g_rmv 2)) (0, 0) 62 [(0, .ref 76), (1, .int x), (2, .int y), (3, .int v), (4, .int (nI 1)), (5, .int (nI 1))] [.int (b2 (hasC S.1.1 x))] (mm I J t) _
            refine zB_if_eq (tgt := 83) dX7_change_62 rfl rfl  (fun h62 => ?_) (fun h62 => ?_)
            · refine zV_aload_n dX7_change_83 rfl 0 rfl rfl ?_
              refine zV_ldc (v := (-1000001)) dX7_change_84 rfl tw970 ?_
              refine zV_callV (E' := eX7_finding (g_rmv 0)) (av := [.int (-1000001)]) (st := []) (b := 76) dX7_change_86 rfl (k_RX7_87 _) rfl ⟨by decide, by decide⟩ ⟨by decide, by decide⟩ (Or.inl rfl) rfl (Nat.le_of_ble_eq_true rfl) rfl rfl rfl (m_finding (w := 0) (by decide) (by decide)) (fun r86 M86 z => ?_)
              obtain ⟨rfl, rfl⟩ := z
              show zV G (eX7_change (g_rmv 2)) (0, 0) 89 [(0, .ref 76), (1, .int x), (2, .int y), (3, .int v), (4, .int (nI 1)), (5, .int (nI 1))] [.int (fdg 0)] (mm (mTell I 0) J t) _
              exact zV_ireturn dX7_change_89 rfl rfl (PM.tell hM (by decide) (by unfold op_change; rw [if_neg h62]) scM.rf)
            · have hq : 0 ≤ v ∧ v ≤ mostOf y := by rw [z_mst h37, if_neg (show ¬ y = nI 0 from h1), if_neg h11, if_pos h20]; exact h47
              obtain ⟨c, hc, rfl⟩ := z_has n10 h62
              obtain ⟨f, a, hf, ha, rfl, rfl⟩ := z_most hq
              refine zV_iload dX7_change_65 rfl 5 rfl ?_
              refine zN_if_eq (tgt := 83) dX7_change_67 rfl rfl (by decide) (fun z => absurd z (by decide)) (fun _ => ?_)
              refine zV_aload_n dX7_change_70 rfl 0 rfl rfl ?_
              refine zV_iload_n dX7_change_71 rfl 1 rfl rfl ?_
              refine zV_iload_n dX7_change_72 rfl 2 rfl rfl ?_
              refine zV_callS (E' := eX7_at (g_rmv 0)) (av := [.int (nI c), .int (nI f)]) (st := [.ref 76]) dX7_change_73 rfl (k_RX7_80 _) rfl ⟨by decide, by decide⟩ ⟨by decide, by decide⟩ (Or.inl rfl) rfl (Nat.le_of_ble_eq_true rfl) (m_at (c := c) (f := f)) (fun r73 M73 z => ?_)
              obtain ⟨rfl, rfl⟩ := z
              show zV G (eX7_change (g_rmv 2)) (0, 0) 76 [(0, .ref 76), (1, .int (nI c)), (2, .int (nI f)), (3, .int (nI a)), (4, .int (nI 1)), (5, .int (nI 1))] [.int (nI (13 + 6 * c + f)), .ref 76] (mm I J t) _
              refine zV_iload_n dX7_change_76 rfl 3 rfl rfl ?_
              refine zV_callV (E' := eX7_become (g_rmv 0)) (av := [.int (nI (13 + 6 * c + f)), .int (nI a)]) (st := []) (b := 76) dX7_change_77 rfl (k_RX7_130 _) rfl ⟨by decide, by decide⟩ ⟨by decide, by decide⟩ (Or.inl rfl) rfl (Nat.le_of_ble_eq_true rfl) rfl rfl rfl (m_become (a := (13 + 6 * c + f)) (v := (nI a)) (by omega)) (fun r77 M77 z => ?_)
              obtain ⟨rfl, rfl⟩ := z
              show zV G (eX7_change (g_rmv 2)) (0, 0) 80 [(0, .ref 76), (1, .int (nI c)), (2, .int (nI f)), (3, .int (nI a)), (4, .int (nI 1)), (5, .int (nI 1))] [.int (I 77 (13 + 6 * c + f))] (mm (up2 I 77 (13 + 6 * c + f) (nI a)) J t) _
              refine zV_goto (tgt := 89) dX7_change_80 rfl ?_
              exact zV_ireturn dX7_change_89 rfl rfl (PM.land hM (by unfold op_change; rw [if_pos h62, if_pos hq, tn_nI (show c < 2 ^ 31 by omega), tn_nI (show f < 2 ^ 31 by omega), tn_nI (show a < 2 ^ 31 by omega), hM.1.2.2.2.2 c hc f (by omega)]) scM.rf (hM.1.set (by omega)) frM.up)
    · skip
      refine zV_iconst (v := (nI 3)) dX7_change_14 rfl rfl ?_
      refine zV_goto (tgt := 29) dX7_change_15 rfl ?_
      refine zV_istore (lv' := [(0, .ref 76), (1, .int x), (2, .int y), (3, .int v), (4, .int (nI 3))]) dX7_change_29 rfl (by decide) rfl ?_
      refine zV_iload_n dX7_change_31 rfl 2 rfl rfl ?_
      refine zV_iconst (v := (nI 0)) dX7_change_32 rfl rfl ?_
      refine zV_iconst (v := (nI 4)) dX7_change_33 rfl rfl ?_
      refine zV_callS (E' := eX7_within (g_rmv 0)) (av := [.int y, .int (nI 0), .int (nI 4)]) (st := []) dX7_change_34 rfl (k_RX7_72 _) rfl ⟨by decide, by decide⟩ ⟨by decide, by decide⟩ (Or.inl rfl) rfl (Nat.le_of_ble_eq_true rfl) (m_within (x := y) (y := (nI 0)) (z := (nI 4))) (fun r34 M34 z => ?_)
      obtain ⟨rfl, rfl⟩ := z
      show zV G (eX7_change (g_rmv 2)) (0, 0) 37 [(0, .ref 76), (1, .int x), (2, .int y), (3, .int v), (4, .int (nI 3))] [.int (b2 (inR y 4))] (mm I J t) _
      refine zB_if_eq (tgt := 54) dX7_change_37 rfl rfl  (fun h37 => ?_) (fun h37 => ?_)
      · refine zV_iconst (v := (nI 0)) dX7_change_54 rfl rfl ?_
        refine zV_istore (lv' := [(0, .ref 76), (1, .int x), (2, .int y), (3, .int v), (4, .int (nI 3)), (5, .int (nI 0))]) dX7_change_55 rfl (by decide) rfl ?_
        refine zV_aload_n dX7_change_57 rfl 0 rfl rfl ?_
        refine zV_iload_n dX7_change_58 rfl 1 rfl rfl ?_
        refine zV_callV (E' := eX7_isCoin (g_rmv 1)) (av := [.int x]) (st := []) (b := 76) dX7_change_59 rfl (k_RX7_124 _) rfl ⟨by decide, by decide⟩ ⟨by decide, by decide⟩ (Or.inl rfl) rfl (Nat.le_of_ble_eq_true rfl) rfl rfl rfl (m_isCoin (x := x) hM.1 hw.1) (fun r59 M59 z => ?_)
        obtain ⟨rfl, rfl⟩ := z
        show zV G (eX7_change (g_rmv 2)) (0, 0) 62 [(0, .ref 76), (1, .int x), (2, .int y), (3, .int v), (4, .int (nI 3)), (5, .int (nI 0))] [.int (b2 (hasC S.1.1 x))] (mm I J t) _
        refine zB_if_eq (tgt := 83) dX7_change_62 rfl rfl  (fun h62 => ?_) (fun h62 => ?_)
        · refine zV_aload_n dX7_change_83 rfl 0 rfl rfl ?_
          refine zV_ldc (v := (-1000001)) dX7_change_84 rfl tw970 ?_
          refine zV_callV (E' := eX7_finding (g_rmv 0)) (av := [.int (-1000001)]) (st := []) (b := 76) dX7_change_86 rfl (k_RX7_87 _) rfl ⟨by decide, by decide⟩ ⟨by decide, by decide⟩ (Or.inl rfl) rfl (Nat.le_of_ble_eq_true rfl) rfl rfl rfl (m_finding (w := 0) (by decide) (by decide)) (fun r86 M86 z => ?_)
          obtain ⟨rfl, rfl⟩ := z
          show zV G (eX7_change (g_rmv 2)) (0, 0) 89 [(0, .ref 76), (1, .int x), (2, .int y), (3, .int v), (4, .int (nI 3)), (5, .int (nI 0))] [.int (fdg 0)] (mm (mTell I 0) J t) _
          exact zV_ireturn dX7_change_89 rfl rfl (PM.tell hM (by decide) (by unfold op_change; rw [if_neg h62]) scM.rf)
        · refine zV_iload dX7_change_65 rfl 5 rfl ?_
          refine zN_if_eq (tgt := 83) dX7_change_67 rfl rfl (by decide) (fun _ => ?_) (fun z => absurd z (by decide))
          refine zV_aload_n dX7_change_83 rfl 0 rfl rfl ?_
          refine zV_ldc (v := (-1000001)) dX7_change_84 rfl tw970 ?_
          refine zV_callV (E' := eX7_finding (g_rmv 0)) (av := [.int (-1000001)]) (st := []) (b := 76) dX7_change_86 rfl (k_RX7_87 _) rfl ⟨by decide, by decide⟩ ⟨by decide, by decide⟩ (Or.inl rfl) rfl (Nat.le_of_ble_eq_true rfl) rfl rfl rfl (m_finding (w := 0) (by decide) (by decide)) (fun r86 M86 z => ?_)
          obtain ⟨rfl, rfl⟩ := z
          show zV G (eX7_change (g_rmv 2)) (0, 0) 89 [(0, .ref 76), (1, .int x), (2, .int y), (3, .int v), (4, .int (nI 3)), (5, .int (nI 0))] [.int (fdg 0)] (mm (mTell I 0) J t) _
          exact zV_ireturn dX7_change_89 rfl rfl (PM.tell hM (by decide) (by unfold op_change; rw [if_pos h62, if_neg (z_mst' h37)]) scM.rf)
      · refine zV_iload_n dX7_change_40 rfl 3 rfl rfl ?_
        refine zV_iconst (v := (nI 0)) dX7_change_41 rfl rfl ?_
        refine zV_iload dX7_change_42 rfl 4 rfl ?_
        refine zV_callS (E' := eX7_within (g_rmv 0)) (av := [.int v, .int (nI 0), .int (nI 3)]) (st := []) dX7_change_44 rfl (k_RX7_72 _) rfl ⟨by decide, by decide⟩ ⟨by decide, by decide⟩ (Or.inl rfl) rfl (Nat.le_of_ble_eq_true rfl) (m_within (x := v) (y := (nI 0)) (z := (nI 3))) (fun r44 M44 z => ?_)
        obtain ⟨rfl, rfl⟩ := z
        show zV G (eX7_change (g_rmv 2)) (0, 0) 47 [(0, .ref 76), (1, .int x), (2, .int y), (3, .int v), (4, .int (nI 3))] [.int (b2 (inR v 3))] (mm I J t) _
        refine zB_if_eq (tgt := 54) dX7_change_47 rfl rfl  (fun h47 => ?_) (fun h47 => ?_)
        · refine zV_iconst (v := (nI 0)) dX7_change_54 rfl rfl ?_
          refine zV_istore (lv' := [(0, .ref 76), (1, .int x), (2, .int y), (3, .int v), (4, .int (nI 3)), (5, .int (nI 0))]) dX7_change_55 rfl (by decide) rfl ?_
          refine zV_aload_n dX7_change_57 rfl 0 rfl rfl ?_
          refine zV_iload_n dX7_change_58 rfl 1 rfl rfl ?_
          refine zV_callV (E' := eX7_isCoin (g_rmv 1)) (av := [.int x]) (st := []) (b := 76) dX7_change_59 rfl (k_RX7_124 _) rfl ⟨by decide, by decide⟩ ⟨by decide, by decide⟩ (Or.inl rfl) rfl (Nat.le_of_ble_eq_true rfl) rfl rfl rfl (m_isCoin (x := x) hM.1 hw.1) (fun r59 M59 z => ?_)
          obtain ⟨rfl, rfl⟩ := z
          show zV G (eX7_change (g_rmv 2)) (0, 0) 62 [(0, .ref 76), (1, .int x), (2, .int y), (3, .int v), (4, .int (nI 3)), (5, .int (nI 0))] [.int (b2 (hasC S.1.1 x))] (mm I J t) _
          refine zB_if_eq (tgt := 83) dX7_change_62 rfl rfl  (fun h62 => ?_) (fun h62 => ?_)
          · refine zV_aload_n dX7_change_83 rfl 0 rfl rfl ?_
            refine zV_ldc (v := (-1000001)) dX7_change_84 rfl tw970 ?_
            refine zV_callV (E' := eX7_finding (g_rmv 0)) (av := [.int (-1000001)]) (st := []) (b := 76) dX7_change_86 rfl (k_RX7_87 _) rfl ⟨by decide, by decide⟩ ⟨by decide, by decide⟩ (Or.inl rfl) rfl (Nat.le_of_ble_eq_true rfl) rfl rfl rfl (m_finding (w := 0) (by decide) (by decide)) (fun r86 M86 z => ?_)
            obtain ⟨rfl, rfl⟩ := z
            show zV G (eX7_change (g_rmv 2)) (0, 0) 89 [(0, .ref 76), (1, .int x), (2, .int y), (3, .int v), (4, .int (nI 3)), (5, .int (nI 0))] [.int (fdg 0)] (mm (mTell I 0) J t) _
            exact zV_ireturn dX7_change_89 rfl rfl (PM.tell hM (by decide) (by unfold op_change; rw [if_neg h62]) scM.rf)
          · refine zV_iload dX7_change_65 rfl 5 rfl ?_
            refine zN_if_eq (tgt := 83) dX7_change_67 rfl rfl (by decide) (fun _ => ?_) (fun z => absurd z (by decide))
            refine zV_aload_n dX7_change_83 rfl 0 rfl rfl ?_
            refine zV_ldc (v := (-1000001)) dX7_change_84 rfl tw970 ?_
            refine zV_callV (E' := eX7_finding (g_rmv 0)) (av := [.int (-1000001)]) (st := []) (b := 76) dX7_change_86 rfl (k_RX7_87 _) rfl ⟨by decide, by decide⟩ ⟨by decide, by decide⟩ (Or.inl rfl) rfl (Nat.le_of_ble_eq_true rfl) rfl rfl rfl (m_finding (w := 0) (by decide) (by decide)) (fun r86 M86 z => ?_)
            obtain ⟨rfl, rfl⟩ := z
            show zV G (eX7_change (g_rmv 2)) (0, 0) 89 [(0, .ref 76), (1, .int x), (2, .int y), (3, .int v), (4, .int (nI 3)), (5, .int (nI 0))] [.int (fdg 0)] (mm (mTell I 0) J t) _
            exact zV_ireturn dX7_change_89 rfl rfl (PM.tell hM (by decide) (by unfold op_change; rw [if_pos h62, z_mst h37, if_neg (show ¬ y = nI 0 from h1), if_pos h11, if_neg h47]) scM.rf)
        · refine zV_iconst (v := (nI 1)) dX7_change_50 rfl rfl ?_
          refine zV_goto (tgt := 55) dX7_change_51 rfl ?_
          refine zV_istore (lv' := [(0, .ref 76), (1, .int x), (2, .int y), (3, .int v), (4, .int (nI 3)), (5, .int (nI 1))]) dX7_change_55 rfl (by decide) rfl ?_
          refine zV_aload_n dX7_change_57 rfl 0 rfl rfl ?_
          refine zV_iload_n dX7_change_58 rfl 1 rfl rfl ?_
          refine zV_callV (E' := eX7_isCoin (g_rmv 1)) (av := [.int x]) (st := []) (b := 76) dX7_change_59 rfl (k_RX7_124 _) rfl ⟨by decide, by decide⟩ ⟨by decide, by decide⟩ (Or.inl rfl) rfl (Nat.le_of_ble_eq_true rfl) rfl rfl rfl (m_isCoin (x := x) hM.1 hw.1) (fun r59 M59 z => ?_)
          obtain ⟨rfl, rfl⟩ := z
          show zV G (eX7_change (g_rmv 2)) (0, 0) 62 [(0, .ref 76), (1, .int x), (2, .int y), (3, .int v), (4, .int (nI 3)), (5, .int (nI 1))] [.int (b2 (hasC S.1.1 x))] (mm I J t) _
          refine zB_if_eq (tgt := 83) dX7_change_62 rfl rfl  (fun h62 => ?_) (fun h62 => ?_)
          · refine zV_aload_n dX7_change_83 rfl 0 rfl rfl ?_
            refine zV_ldc (v := (-1000001)) dX7_change_84 rfl tw970 ?_
            refine zV_callV (E' := eX7_finding (g_rmv 0)) (av := [.int (-1000001)]) (st := []) (b := 76) dX7_change_86 rfl (k_RX7_87 _) rfl ⟨by decide, by decide⟩ ⟨by decide, by decide⟩ (Or.inl rfl) rfl (Nat.le_of_ble_eq_true rfl) rfl rfl rfl (m_finding (w := 0) (by decide) (by decide)) (fun r86 M86 z => ?_)
            obtain ⟨rfl, rfl⟩ := z
            show zV G (eX7_change (g_rmv 2)) (0, 0) 89 [(0, .ref 76), (1, .int x), (2, .int y), (3, .int v), (4, .int (nI 3)), (5, .int (nI 1))] [.int (fdg 0)] (mm (mTell I 0) J t) _
            exact zV_ireturn dX7_change_89 rfl rfl (PM.tell hM (by decide) (by unfold op_change; rw [if_neg h62]) scM.rf)
          · have hq : 0 ≤ v ∧ v ≤ mostOf y := by rw [z_mst h37, if_neg (show ¬ y = nI 0 from h1), if_pos h11]; exact h47
            obtain ⟨c, hc, rfl⟩ := z_has n10 h62
            obtain ⟨f, a, hf, ha, rfl, rfl⟩ := z_most hq
            refine zV_iload dX7_change_65 rfl 5 rfl ?_
            refine zN_if_eq (tgt := 83) dX7_change_67 rfl rfl (by decide) (fun z => absurd z (by decide)) (fun _ => ?_)
            refine zV_aload_n dX7_change_70 rfl 0 rfl rfl ?_
            refine zV_iload_n dX7_change_71 rfl 1 rfl rfl ?_
            refine zV_iload_n dX7_change_72 rfl 2 rfl rfl ?_
            refine zV_callS (E' := eX7_at (g_rmv 0)) (av := [.int (nI c), .int (nI f)]) (st := [.ref 76]) dX7_change_73 rfl (k_RX7_80 _) rfl ⟨by decide, by decide⟩ ⟨by decide, by decide⟩ (Or.inl rfl) rfl (Nat.le_of_ble_eq_true rfl) (m_at (c := c) (f := f)) (fun r73 M73 z => ?_)
            obtain ⟨rfl, rfl⟩ := z
            show zV G (eX7_change (g_rmv 2)) (0, 0) 76 [(0, .ref 76), (1, .int (nI c)), (2, .int (nI f)), (3, .int (nI a)), (4, .int (nI 3)), (5, .int (nI 1))] [.int (nI (13 + 6 * c + f)), .ref 76] (mm I J t) _
            refine zV_iload_n dX7_change_76 rfl 3 rfl rfl ?_
            refine zV_callV (E' := eX7_become (g_rmv 0)) (av := [.int (nI (13 + 6 * c + f)), .int (nI a)]) (st := []) (b := 76) dX7_change_77 rfl (k_RX7_130 _) rfl ⟨by decide, by decide⟩ ⟨by decide, by decide⟩ (Or.inl rfl) rfl (Nat.le_of_ble_eq_true rfl) rfl rfl rfl (m_become (a := (13 + 6 * c + f)) (v := (nI a)) (by omega)) (fun r77 M77 z => ?_)
            obtain ⟨rfl, rfl⟩ := z
            show zV G (eX7_change (g_rmv 2)) (0, 0) 80 [(0, .ref 76), (1, .int (nI c)), (2, .int (nI f)), (3, .int (nI a)), (4, .int (nI 3)), (5, .int (nI 1))] [.int (I 77 (13 + 6 * c + f))] (mm (up2 I 77 (13 + 6 * c + f) (nI a)) J t) _
            refine zV_goto (tgt := 89) dX7_change_80 rfl ?_
            exact zV_ireturn dX7_change_89 rfl rfl (PM.land hM (by unfold op_change; rw [if_pos h62, if_pos hq, tn_nI (show c < 2 ^ 31 by omega), tn_nI (show f < 2 ^ 31 by omega), tn_nI (show a < 2 ^ 31 by omega), hM.1.2.2.2.2 c hc f (by omega)]) scM.rf (hM.1.set (by omega)) frM.up)
  · skip
    refine zV_bipush (v := (nI 6)) dX7_change_4 rfl rfl ?_
    refine zV_goto (tgt := 29) dX7_change_6 rfl ?_
    refine zV_istore (lv' := [(0, .ref 76), (1, .int x), (2, .int y), (3, .int v), (4, .int (nI 6))]) dX7_change_29 rfl (by decide) rfl ?_
    refine zV_iload_n dX7_change_31 rfl 2 rfl rfl ?_
    refine zV_iconst (v := (nI 0)) dX7_change_32 rfl rfl ?_
    refine zV_iconst (v := (nI 4)) dX7_change_33 rfl rfl ?_
    refine zV_callS (E' := eX7_within (g_rmv 0)) (av := [.int y, .int (nI 0), .int (nI 4)]) (st := []) dX7_change_34 rfl (k_RX7_72 _) rfl ⟨by decide, by decide⟩ ⟨by decide, by decide⟩ (Or.inl rfl) rfl (Nat.le_of_ble_eq_true rfl) (m_within (x := y) (y := (nI 0)) (z := (nI 4))) (fun r34 M34 z => ?_)
    obtain ⟨rfl, rfl⟩ := z
    show zV G (eX7_change (g_rmv 2)) (0, 0) 37 [(0, .ref 76), (1, .int x), (2, .int y), (3, .int v), (4, .int (nI 6))] [.int (b2 (inR y 4))] (mm I J t) _
    refine zB_if_eq (tgt := 54) dX7_change_37 rfl rfl  (fun h37 => ?_) (fun h37 => ?_)
    · refine zV_iconst (v := (nI 0)) dX7_change_54 rfl rfl ?_
      refine zV_istore (lv' := [(0, .ref 76), (1, .int x), (2, .int y), (3, .int v), (4, .int (nI 6)), (5, .int (nI 0))]) dX7_change_55 rfl (by decide) rfl ?_
      refine zV_aload_n dX7_change_57 rfl 0 rfl rfl ?_
      refine zV_iload_n dX7_change_58 rfl 1 rfl rfl ?_
      refine zV_callV (E' := eX7_isCoin (g_rmv 1)) (av := [.int x]) (st := []) (b := 76) dX7_change_59 rfl (k_RX7_124 _) rfl ⟨by decide, by decide⟩ ⟨by decide, by decide⟩ (Or.inl rfl) rfl (Nat.le_of_ble_eq_true rfl) rfl rfl rfl (m_isCoin (x := x) hM.1 hw.1) (fun r59 M59 z => ?_)
      obtain ⟨rfl, rfl⟩ := z
      show zV G (eX7_change (g_rmv 2)) (0, 0) 62 [(0, .ref 76), (1, .int x), (2, .int y), (3, .int v), (4, .int (nI 6)), (5, .int (nI 0))] [.int (b2 (hasC S.1.1 x))] (mm I J t) _
      refine zB_if_eq (tgt := 83) dX7_change_62 rfl rfl  (fun h62 => ?_) (fun h62 => ?_)
      · refine zV_aload_n dX7_change_83 rfl 0 rfl rfl ?_
        refine zV_ldc (v := (-1000001)) dX7_change_84 rfl tw970 ?_
        refine zV_callV (E' := eX7_finding (g_rmv 0)) (av := [.int (-1000001)]) (st := []) (b := 76) dX7_change_86 rfl (k_RX7_87 _) rfl ⟨by decide, by decide⟩ ⟨by decide, by decide⟩ (Or.inl rfl) rfl (Nat.le_of_ble_eq_true rfl) rfl rfl rfl (m_finding (w := 0) (by decide) (by decide)) (fun r86 M86 z => ?_)
        obtain ⟨rfl, rfl⟩ := z
        show zV G (eX7_change (g_rmv 2)) (0, 0) 89 [(0, .ref 76), (1, .int x), (2, .int y), (3, .int v), (4, .int (nI 6)), (5, .int (nI 0))] [.int (fdg 0)] (mm (mTell I 0) J t) _
        exact zV_ireturn dX7_change_89 rfl rfl (PM.tell hM (by decide) (by unfold op_change; rw [if_neg h62]) scM.rf)
      · refine zV_iload dX7_change_65 rfl 5 rfl ?_
        refine zN_if_eq (tgt := 83) dX7_change_67 rfl rfl (by decide) (fun _ => ?_) (fun z => absurd z (by decide))
        refine zV_aload_n dX7_change_83 rfl 0 rfl rfl ?_
        refine zV_ldc (v := (-1000001)) dX7_change_84 rfl tw970 ?_
        refine zV_callV (E' := eX7_finding (g_rmv 0)) (av := [.int (-1000001)]) (st := []) (b := 76) dX7_change_86 rfl (k_RX7_87 _) rfl ⟨by decide, by decide⟩ ⟨by decide, by decide⟩ (Or.inl rfl) rfl (Nat.le_of_ble_eq_true rfl) rfl rfl rfl (m_finding (w := 0) (by decide) (by decide)) (fun r86 M86 z => ?_)
        obtain ⟨rfl, rfl⟩ := z
        show zV G (eX7_change (g_rmv 2)) (0, 0) 89 [(0, .ref 76), (1, .int x), (2, .int y), (3, .int v), (4, .int (nI 6)), (5, .int (nI 0))] [.int (fdg 0)] (mm (mTell I 0) J t) _
        exact zV_ireturn dX7_change_89 rfl rfl (PM.tell hM (by decide) (by unfold op_change; rw [if_pos h62, if_neg (z_mst' h37)]) scM.rf)
    · refine zV_iload_n dX7_change_40 rfl 3 rfl rfl ?_
      refine zV_iconst (v := (nI 0)) dX7_change_41 rfl rfl ?_
      refine zV_iload dX7_change_42 rfl 4 rfl ?_
      refine zV_callS (E' := eX7_within (g_rmv 0)) (av := [.int v, .int (nI 0), .int (nI 6)]) (st := []) dX7_change_44 rfl (k_RX7_72 _) rfl ⟨by decide, by decide⟩ ⟨by decide, by decide⟩ (Or.inl rfl) rfl (Nat.le_of_ble_eq_true rfl) (m_within (x := v) (y := (nI 0)) (z := (nI 6))) (fun r44 M44 z => ?_)
      obtain ⟨rfl, rfl⟩ := z
      show zV G (eX7_change (g_rmv 2)) (0, 0) 47 [(0, .ref 76), (1, .int x), (2, .int y), (3, .int v), (4, .int (nI 6))] [.int (b2 (inR v 6))] (mm I J t) _
      refine zB_if_eq (tgt := 54) dX7_change_47 rfl rfl  (fun h47 => ?_) (fun h47 => ?_)
      · refine zV_iconst (v := (nI 0)) dX7_change_54 rfl rfl ?_
        refine zV_istore (lv' := [(0, .ref 76), (1, .int x), (2, .int y), (3, .int v), (4, .int (nI 6)), (5, .int (nI 0))]) dX7_change_55 rfl (by decide) rfl ?_
        refine zV_aload_n dX7_change_57 rfl 0 rfl rfl ?_
        refine zV_iload_n dX7_change_58 rfl 1 rfl rfl ?_
        refine zV_callV (E' := eX7_isCoin (g_rmv 1)) (av := [.int x]) (st := []) (b := 76) dX7_change_59 rfl (k_RX7_124 _) rfl ⟨by decide, by decide⟩ ⟨by decide, by decide⟩ (Or.inl rfl) rfl (Nat.le_of_ble_eq_true rfl) rfl rfl rfl (m_isCoin (x := x) hM.1 hw.1) (fun r59 M59 z => ?_)
        obtain ⟨rfl, rfl⟩ := z
        show zV G (eX7_change (g_rmv 2)) (0, 0) 62 [(0, .ref 76), (1, .int x), (2, .int y), (3, .int v), (4, .int (nI 6)), (5, .int (nI 0))] [.int (b2 (hasC S.1.1 x))] (mm I J t) _
        refine zB_if_eq (tgt := 83) dX7_change_62 rfl rfl  (fun h62 => ?_) (fun h62 => ?_)
        · refine zV_aload_n dX7_change_83 rfl 0 rfl rfl ?_
          refine zV_ldc (v := (-1000001)) dX7_change_84 rfl tw970 ?_
          refine zV_callV (E' := eX7_finding (g_rmv 0)) (av := [.int (-1000001)]) (st := []) (b := 76) dX7_change_86 rfl (k_RX7_87 _) rfl ⟨by decide, by decide⟩ ⟨by decide, by decide⟩ (Or.inl rfl) rfl (Nat.le_of_ble_eq_true rfl) rfl rfl rfl (m_finding (w := 0) (by decide) (by decide)) (fun r86 M86 z => ?_)
          obtain ⟨rfl, rfl⟩ := z
          show zV G (eX7_change (g_rmv 2)) (0, 0) 89 [(0, .ref 76), (1, .int x), (2, .int y), (3, .int v), (4, .int (nI 6)), (5, .int (nI 0))] [.int (fdg 0)] (mm (mTell I 0) J t) _
          exact zV_ireturn dX7_change_89 rfl rfl (PM.tell hM (by decide) (by unfold op_change; rw [if_neg h62]) scM.rf)
        · refine zV_iload dX7_change_65 rfl 5 rfl ?_
          refine zN_if_eq (tgt := 83) dX7_change_67 rfl rfl (by decide) (fun _ => ?_) (fun z => absurd z (by decide))
          refine zV_aload_n dX7_change_83 rfl 0 rfl rfl ?_
          refine zV_ldc (v := (-1000001)) dX7_change_84 rfl tw970 ?_
          refine zV_callV (E' := eX7_finding (g_rmv 0)) (av := [.int (-1000001)]) (st := []) (b := 76) dX7_change_86 rfl (k_RX7_87 _) rfl ⟨by decide, by decide⟩ ⟨by decide, by decide⟩ (Or.inl rfl) rfl (Nat.le_of_ble_eq_true rfl) rfl rfl rfl (m_finding (w := 0) (by decide) (by decide)) (fun r86 M86 z => ?_)
          obtain ⟨rfl, rfl⟩ := z
          show zV G (eX7_change (g_rmv 2)) (0, 0) 89 [(0, .ref 76), (1, .int x), (2, .int y), (3, .int v), (4, .int (nI 6)), (5, .int (nI 0))] [.int (fdg 0)] (mm (mTell I 0) J t) _
          exact zV_ireturn dX7_change_89 rfl rfl (PM.tell hM (by decide) (by unfold op_change; rw [if_pos h62, z_mst h37, if_pos (show y = nI 0 from h1), if_neg h47]) scM.rf)
      · refine zV_iconst (v := (nI 1)) dX7_change_50 rfl rfl ?_
        refine zV_goto (tgt := 55) dX7_change_51 rfl ?_
        refine zV_istore (lv' := [(0, .ref 76), (1, .int x), (2, .int y), (3, .int v), (4, .int (nI 6)), (5, .int (nI 1))]) dX7_change_55 rfl (by decide) rfl ?_
        refine zV_aload_n dX7_change_57 rfl 0 rfl rfl ?_
        refine zV_iload_n dX7_change_58 rfl 1 rfl rfl ?_
        refine zV_callV (E' := eX7_isCoin (g_rmv 1)) (av := [.int x]) (st := []) (b := 76) dX7_change_59 rfl (k_RX7_124 _) rfl ⟨by decide, by decide⟩ ⟨by decide, by decide⟩ (Or.inl rfl) rfl (Nat.le_of_ble_eq_true rfl) rfl rfl rfl (m_isCoin (x := x) hM.1 hw.1) (fun r59 M59 z => ?_)
        obtain ⟨rfl, rfl⟩ := z
        show zV G (eX7_change (g_rmv 2)) (0, 0) 62 [(0, .ref 76), (1, .int x), (2, .int y), (3, .int v), (4, .int (nI 6)), (5, .int (nI 1))] [.int (b2 (hasC S.1.1 x))] (mm I J t) _
        refine zB_if_eq (tgt := 83) dX7_change_62 rfl rfl  (fun h62 => ?_) (fun h62 => ?_)
        · refine zV_aload_n dX7_change_83 rfl 0 rfl rfl ?_
          refine zV_ldc (v := (-1000001)) dX7_change_84 rfl tw970 ?_
          refine zV_callV (E' := eX7_finding (g_rmv 0)) (av := [.int (-1000001)]) (st := []) (b := 76) dX7_change_86 rfl (k_RX7_87 _) rfl ⟨by decide, by decide⟩ ⟨by decide, by decide⟩ (Or.inl rfl) rfl (Nat.le_of_ble_eq_true rfl) rfl rfl rfl (m_finding (w := 0) (by decide) (by decide)) (fun r86 M86 z => ?_)
          obtain ⟨rfl, rfl⟩ := z
          show zV G (eX7_change (g_rmv 2)) (0, 0) 89 [(0, .ref 76), (1, .int x), (2, .int y), (3, .int v), (4, .int (nI 6)), (5, .int (nI 1))] [.int (fdg 0)] (mm (mTell I 0) J t) _
          exact zV_ireturn dX7_change_89 rfl rfl (PM.tell hM (by decide) (by unfold op_change; rw [if_neg h62]) scM.rf)
        · have hq : 0 ≤ v ∧ v ≤ mostOf y := by rw [z_mst h37, if_pos (show y = nI 0 from h1)]; exact h47
          obtain ⟨c, hc, rfl⟩ := z_has n10 h62
          obtain ⟨f, a, hf, ha, rfl, rfl⟩ := z_most hq
          refine zV_iload dX7_change_65 rfl 5 rfl ?_
          refine zN_if_eq (tgt := 83) dX7_change_67 rfl rfl (by decide) (fun z => absurd z (by decide)) (fun _ => ?_)
          refine zV_aload_n dX7_change_70 rfl 0 rfl rfl ?_
          refine zV_iload_n dX7_change_71 rfl 1 rfl rfl ?_
          refine zV_iload_n dX7_change_72 rfl 2 rfl rfl ?_
          refine zV_callS (E' := eX7_at (g_rmv 0)) (av := [.int (nI c), .int (nI f)]) (st := [.ref 76]) dX7_change_73 rfl (k_RX7_80 _) rfl ⟨by decide, by decide⟩ ⟨by decide, by decide⟩ (Or.inl rfl) rfl (Nat.le_of_ble_eq_true rfl) (m_at (c := c) (f := f)) (fun r73 M73 z => ?_)
          obtain ⟨rfl, rfl⟩ := z
          show zV G (eX7_change (g_rmv 2)) (0, 0) 76 [(0, .ref 76), (1, .int (nI c)), (2, .int (nI f)), (3, .int (nI a)), (4, .int (nI 6)), (5, .int (nI 1))] [.int (nI (13 + 6 * c + f)), .ref 76] (mm I J t) _
          refine zV_iload_n dX7_change_76 rfl 3 rfl rfl ?_
          refine zV_callV (E' := eX7_become (g_rmv 0)) (av := [.int (nI (13 + 6 * c + f)), .int (nI a)]) (st := []) (b := 76) dX7_change_77 rfl (k_RX7_130 _) rfl ⟨by decide, by decide⟩ ⟨by decide, by decide⟩ (Or.inl rfl) rfl (Nat.le_of_ble_eq_true rfl) rfl rfl rfl (m_become (a := (13 + 6 * c + f)) (v := (nI a)) (by omega)) (fun r77 M77 z => ?_)
          obtain ⟨rfl, rfl⟩ := z
          show zV G (eX7_change (g_rmv 2)) (0, 0) 80 [(0, .ref 76), (1, .int (nI c)), (2, .int (nI f)), (3, .int (nI a)), (4, .int (nI 6)), (5, .int (nI 1))] [.int (I 77 (13 + 6 * c + f))] (mm (up2 I 77 (13 + 6 * c + f) (nI a)) J t) _
          refine zV_goto (tgt := 89) dX7_change_80 rfl ?_
          exact zV_ireturn dX7_change_89 rfl rfl (PM.land hM (by unfold op_change; rw [if_pos h62, if_pos hq, tn_nI (show c < 2 ^ 31 by omega), tn_nI (show f < 2 ^ 31 by omega), tn_nI (show a < 2 ^ 31 by omega), hM.1.2.2.2.2 c hc f (by omega)]) scM.rf (hM.1.set (by omega)) frM.up)
