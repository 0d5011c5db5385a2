/-! toss, feed, round: both classes -/
set_option maxRecDepth 100000 in
theorem p_toss {G : mG} {I : Nat → Nat → Int32} {J : Nat → Nat → Int64} {t : Nat} {B : Nat} {S : aS} (hC : InvC I S) (hw : wfS B S) {x y : Int32} : zC G yX6_toss (eX6_toss (g_rmv 2)) [.ref 0, .int x, .int y] (mm I J t) (fun r M => PC I (op_toss S x y) r M) := by
  refine zC_of (by decide +kernel) rfl (by decide) (Nat.le_of_ble_eq_true rfl) ?_
  have n10 := hw.1.1
  show zV G (eX6_toss (g_rmv 2)) (0, 0) 0 [(0, .ref 0), (1, .int x), (2, .int y)] [] (mm I J t) _
  refine zV_aload_n dX6_toss_0 rfl 0 rfl rfl ?_
  refine zV_getr (q' := 1) 0 dX6_toss_1 rfl fl_RX6_12 rfl (by decide) rfl rfl ?_
  refine zV_iload_n dX6_toss_4 rfl 1 rfl rfl ?_
  refine zV_callV (E' := eX1_hasSet (g_rmv 1)) (av := [.int x]) (st := []) (b := 1) dX6_toss_5 rfl (k_RX6_139 _) rfl ⟨by decide, by decide⟩ ⟨by decide, by decide⟩ (Or.inl rfl) rfl (Nat.le_of_ble_eq_true rfl) (sh_land (Or.inl rfl)) rfl rfl (c_hasSet (x := x) (Or.inl rfl) hC.1 hw.1) (fun r5 M5 z => ?_)
  obtain ⟨rfl, rfl⟩ := z
  show zV G (eX6_toss (g_rmv 2)) (0, 0) 8 [(0, .ref 0), (1, .int x), (2, .int y)] [.int (b2 (isSet S.1.1 x))] (mm I J t) _
  refine zB_if_eq (tgt := 20) dX6_toss_8 rfl rfl  (fun h8 => ?_) (fun h8 => ?_)
  · refine zV_aload_n dX6_toss_20 rfl 0 rfl rfl ?_
    refine zV_ldc (v := (-1000001)) dX6_toss_21 rfl tw264 ?_
    refine zV_callV (E' := eX6_tell (g_rmv 1)) (av := [.int (-1000001)]) (st := []) (b := 0) dX6_toss_23 rfl (k_RX6_70 _) rfl ⟨by decide, by decide⟩ ⟨by decide, by decide⟩ (Or.inl rfl) rfl (Nat.le_of_ble_eq_true rfl) rfl rfl rfl (c_tell (w := 0) (by decide) (by decide)) (fun r23 M23 z => ?_)
    obtain ⟨rfl, rfl⟩ := z
    show zV G (eX6_toss (g_rmv 2)) (0, 0) 26 [(0, .ref 0), (1, .int x), (2, .int y)] [.int (fdg 0)] (mm (up2 I 67 0 (I 67 0 + nI 1)) J t) _
    exact zV_ireturn dX6_toss_26 rfl rfl (PC.tell hC hw (by unfold op_toss; rw [if_neg h8]) (fun _ _ => rfl))
  · refine zV_iload_n dX6_toss_11 rfl 2 rfl rfl ?_
    refine zV_bipush (v := (nI 20)) dX6_toss_12 rfl rfl ?_
    refine zV_callS (E' := eX6_isWithin (g_rmv 0)) (av := [.int y, .int (nI 20)]) (st := []) dX6_toss_14 rfl (k_RX6_65 _) rfl ⟨by decide, by decide⟩ ⟨by decide, by decide⟩ (Or.inl rfl) rfl (Nat.le_of_ble_eq_true rfl) (c_isWithin (x := y) (y := (nI 20))) (fun r14 M14 z => ?_)
    obtain ⟨rfl, rfl⟩ := z
    show zV G (eX6_toss (g_rmv 2)) (0, 0) 17 [(0, .ref 0), (1, .int x), (2, .int y)] [.int (b2 (0 ≤ y ∧ y ≤ (nI 20)))] (mm I J t) _
    refine zB_if_ne (tgt := 27) dX6_toss_17 rfl rfl  (fun h17 => ?_) (fun h17 => ?_)
    · obtain ⟨s, hs, hs1, rfl⟩ := z_sets n10 h8
      obtain ⟨n, hn, rfl⟩ := (inR_iff (by decide)).mp h17
      have nb : n * (pcnt s) ≤ 20 * 10 := Nat.mul_le_mul hn (pcnt_le s)
      refine zV_iload_n dX6_toss_27 rfl 2 rfl rfl ?_
      refine zV_iload_n dX6_toss_28 rfl 1 rfl rfl ?_
      refine zV_callS (E' := eJ6_bitCount_0f7a4 (g_rmv 0)) (av := [.int (nI s)]) (st := [.int (nI n)]) dX6_toss_29 rfl (k_RX6_236 _) rfl ⟨by decide, by decide⟩ ⟨by decide, by decide⟩ (Or.inl rfl) rfl (Nat.le_of_ble_eq_true rfl) (c_bitCount (s := s) (by omega)) (fun r29 M29 z => ?_)
      obtain ⟨rfl, rfl⟩ := z
      show zV G (eX6_toss (g_rmv 2)) (0, 0) 32 [(0, .ref 0), (1, .int (nI s)), (2, .int (nI n))] [.int (nI (pcnt s)), .int (nI n)] (mm I J t) _
      refine zA_imul (z := (nI (n * (pcnt s)))) dX6_toss_32 rfl  (pk_mul _ _) ?_
      refine zV_istore_n (lv' := [(0, .ref 0), (1, .int (nI s)), (2, .int (nI n)), (3, .int (nI (n * (pcnt s))))]) dX6_toss_33 rfl rfl (by decide) rfl ?_
      refine zV_iconst (v := (nI 0)) dX6_toss_34 rfl rfl ?_
      refine zV_istore (lv' := [(0, .ref 0), (1, .int (nI s)), (2, .int (nI n)), (3, .int (nI (n * (pcnt s)))), (4, .int (nI 0))]) dX6_toss_35 rfl (by decide) rfl ?_
      refine zV_iconst (v := (nI 0)) dX6_toss_37 rfl rfl ?_
      refine zV_istore (lv' := [(0, .ref 0), (1, .int (nI s)), (2, .int (nI n)), (3, .int (nI (n * (pcnt s)))), (4, .int (nI 0)), (5, .int (nI 0))]) dX6_toss_38 rfl (by decide) rfl ?_
      refine z_for (fun c => ∀ (I1 : Nat → Nat → Int32), (absL I1 1 (ld_z S.1 (zs S.1.2.2.2.2 c)) ∧ frL 1 I I1) → zV G (eX6_toss (g_rmv 2)) (0, 0) 40 [(0, .ref 0), (1, .int (nI s)), (2, .int (nI n)), (3, .int (nI (n * (pcnt s)))), (4, .int (nI (fb_ct (fun i => decide (zn (zs S.1.2.2.2.2 i) % 2 = 0)) c))), (5, .int (nI c))] [] (mm I1 J t) _) (n * (pcnt s)) ?_ ?_ 0 (Nat.zero_le _) I ⟨by rw [show ld_z S.1 (zs S.1.2.2.2.2 0) = S.1 from rfl]; exact hC.1, frL.rf⟩
      · intro I1 h1
        refine zV_iload dX6_toss_40 rfl 5 rfl ?_
        refine zV_iload_n dX6_toss_42 rfl 3 rfl rfl ?_
        refine zN_icmp_ge (tgt := 67) dX6_toss_43 rfl rfl (by omega) (by omega) (fun _ => ?_) (fun z => absurd z (by omega))
        refine zV_iload dX6_toss_67 rfl 4 rfl ?_
        exact zV_ireturn dX6_toss_69 rfl rfl (PC.land hC hw (by unfold op_toss; rw [if_pos h8, if_pos h17, tn_nI (show s < 2 ^ 31 by omega), tn_nI (show n < 2 ^ 31 by omega)]) h1.1 h1.2.one)
      · intro c hc ih
        intro I1 h1
        refine zV_iload dX6_toss_40 rfl 5 rfl ?_
        refine zV_iload_n dX6_toss_42 rfl 3 rfl rfl ?_
        refine zN_icmp_ge (tgt := 67) dX6_toss_43 rfl rfl (by omega) (by omega) (fun z => absurd z (by omega)) (fun _ => ?_)
        refine zV_aload_n dX6_toss_46 rfl 0 rfl rfl ?_
        refine zV_getr (q' := 1) 0 dX6_toss_47 rfl fl_RX6_12 rfl (by decide) rfl rfl ?_
        refine zV_callV (E' := eX1_draw (g_rmv 0)) (av := []) (st := []) (b := 1) dX6_toss_50 rfl (k_RX6_233 _) rfl ⟨by decide, by decide⟩ ⟨by decide, by decide⟩ (Or.inl rfl) rfl (Nat.le_of_ble_eq_true rfl) (sh_land (Or.inl rfl)) rfl rfl (c_draw (Or.inl rfl) h1.1 (wf_z hw.1)) (fun r50 M50 z => ?_)
        obtain ⟨I50, rfl, rfl, hA50, hF50⟩ := z
        rw [ld_z_z, ld_z_at] at hA50
        rw [ld_z_at]
        show zV G (eX6_toss (g_rmv 2)) (0, 0) 53 [(0, .ref 0), (1, .int (nI s)), (2, .int (nI n)), (3, .int (nI (n * (pcnt s)))), (4, .int (nI (fb_ct (fun i => decide (zn (zs S.1.2.2.2.2 i) % 2 = 0)) c))), (5, .int (nI c))] [.int (nI (zn (zs S.1.2.2.2.2 c)))] (mm I50 J t) _
        refine zV_iconst (v := (nI 2)) dX6_toss_53 rfl rfl ?_
        refine zA_irem (z := (nI (zn (zs S.1.2.2.2.2 c) % 2))) dX6_toss_54 rfl (by decide) (mk_rem _ (by decide) (by decide)) ?_
        refine zN_if_ne (tgt := 61) dX6_toss_55 rfl rfl (by omega) (fun h55 => ?_) (fun h55 => ?_)
        · refine zV_iinc (y := (nI (c + 1))) (lv' := [(0, .ref 0), (1, .int (nI s)), (2, .int (nI n)), (3, .int (nI (n * (pcnt s)))), (4, .int (nI (fb_ct (fun i => decide (zn (zs S.1.2.2.2.2 i) % 2 = 0)) c))), (5, .int (nI (c + 1)))]) dX6_toss_61 rfl 5 rfl (nI_1 _) (by decide) rfl ?_
          refine zV_goto (tgt := 40) dX6_toss_64 rfl ?_
          rw [show fb_ct (fun i => decide (zn (zs S.1.2.2.2.2 i) % 2 = 0)) (c + 1) = (fb_ct (fun i => decide (zn (zs S.1.2.2.2.2 i) % 2 = 0)) c) by rw [fb_ct_succ]; simp [h55]] at ih
          exact ih _ ⟨by rw [show zs S.1.2.2.2.2 (c + 1) = zd (zs S.1.2.2.2.2 c) from rfl]; exact hA50, h1.2.tr hF50⟩
        · refine zV_iinc (y := (nI ((fb_ct (fun i => decide (zn (zs S.1.2.2.2.2 i) % 2 = 0)) c) + 1))) (lv' := [(0, .ref 0), (1, .int (nI s)), (2, .int (nI n)), (3, .int (nI (n * (pcnt s)))), (4, .int (nI ((fb_ct (fun i => decide (zn (zs S.1.2.2.2.2 i) % 2 = 0)) c) + 1))), (5, .int (nI c))]) dX6_toss_58 rfl 4 rfl (nI_1 _) (by decide) rfl ?_
          refine zV_iinc (y := (nI (c + 1))) (lv' := [(0, .ref 0), (1, .int (nI s)), (2, .int (nI n)), (3, .int (nI (n * (pcnt s)))), (4, .int (nI ((fb_ct (fun i => decide (zn (zs S.1.2.2.2.2 i) % 2 = 0)) c) + 1))), (5, .int (nI (c + 1)))]) dX6_toss_61 rfl 5 rfl (nI_1 _) (by decide) rfl ?_
          refine zV_goto (tgt := 40) dX6_toss_64 rfl ?_
          rw [show fb_ct (fun i => decide (zn (zs S.1.2.2.2.2 i) % 2 = 0)) (c + 1) = ((fb_ct (fun i => decide (zn (zs S.1.2.2.2.2 i) % 2 = 0)) c) + 1) by rw [fb_ct_succ]; simp [h55]] at ih
          exact ih _ ⟨by rw [show zs S.1.2.2.2.2 (c + 1) = zd (zs S.1.2.2.2.2 c) from rfl]; exact hA50, h1.2.tr hF50⟩
    · refine zV_aload_n dX6_toss_20 rfl 0 rfl rfl ?_
      refine zV_ldc (v := (-1000001)) dX6_toss_21 rfl tw264 ?_
      refine zV_callV (E' := eX6_tell (g_rmv 1)) (av := [.int (-1000001)]) (st := []) (b := 0) dX6_toss_23 rfl (k_RX6_70 _) rfl ⟨by decide, by decide⟩ ⟨by decide, by decide⟩ (Or.inl rfl) rfl (Nat.le_of_ble_eq_true rfl) rfl rfl rfl (c_tell (w := 0) (by decide) (by decide)) (fun r23 M23 z => ?_)
      obtain ⟨rfl, rfl⟩ := z
      show zV G (eX6_toss (g_rmv 2)) (0, 0) 26 [(0, .ref 0), (1, .int x), (2, .int y)] [.int (fdg 0)] (mm (up2 I 67 0 (I 67 0 + nI 1)) J t) _
      exact zV_ireturn dX6_toss_26 rfl rfl (PC.tell hC hw (by unfold op_toss; rw [if_pos h8, if_neg h17]) (fun _ _ => rfl))

set_option maxRecDepth 100000 in
theorem q_toss {G : mG} {I : Nat → Nat → Int32} {J : Nat → Nat → Int64} {t : Nat} {B : Nat} {S : aS} (hM : InvM I S) (hw : wfS B S) {x y : Int32} : zC G yX7_toss (eX7_toss (g_rmv 2)) [.ref 76, .int x, .int y] (mm I J t) (fun r M => PM I (op_toss S x y) r M) := by
  refine zC_of (by decide +kernel) rfl (by decide) (Nat.le_of_ble_eq_true rfl) ?_
  have n10 := hw.1.1
  show zV G (eX7_toss (g_rmv 2)) (0, 0) 0 [(0, .ref 76), (1, .int x), (2, .int y)] [] (mm I J t) _
  refine zV_aload_n dX7_toss_0 rfl 0 rfl rfl ?_
  refine zV_iload_n dX7_toss_1 rfl 1 rfl rfl ?_
  refine zV_callV (E' := eX7_isSet (g_rmv 1)) (av := [.int x]) (st := []) (b := 76) dX7_toss_2 rfl (k_RX7_152 _) rfl ⟨by decide, by decide⟩ ⟨by decide, by decide⟩ (Or.inl rfl) rfl (Nat.le_of_ble_eq_true rfl) rfl rfl rfl (m_isSet (x := x) hM.1 hw.1) (fun r2 M2 z => ?_)
  obtain ⟨rfl, rfl⟩ := z
  show zV G (eX7_toss (g_rmv 2)) (0, 0) 5 [(0, .ref 76), (1, .int x), (2, .int y)] [.int (b2 (isSet S.1.1 x))] (mm I J t) _
  refine zB_if_eq (tgt := 18) dX7_toss_5 rfl rfl  (fun h5 => ?_) (fun h5 => ?_)
  · refine zV_aload_n dX7_toss_18 rfl 0 rfl rfl ?_
    refine zV_ldc (v := (-1000001)) dX7_toss_19 rfl tw970 ?_
    refine zV_callV (E' := eX7_finding (g_rmv 0)) (av := [.int (-1000001)]) (st := []) (b := 76) dX7_toss_21 rfl (k_RX7_87 _) rfl ⟨by decide, by decide⟩ ⟨by decide, by decide⟩ (Or.inl rfl) rfl (Nat.le_of_ble_eq_true rfl) rfl rfl rfl (m_finding (w := 0) (by decide) (by decide)) (fun r21 M21 z => ?_)
    obtain ⟨rfl, rfl⟩ := z
    show zV G (eX7_toss (g_rmv 2)) (0, 0) 24 [(0, .ref 76), (1, .int x), (2, .int y)] [.int (fdg 0)] (mm (mTell I 0) J t) _
    exact zV_ireturn dX7_toss_24 rfl rfl (PM.tell hM (by decide) (by unfold op_toss; rw [if_neg h5]) scM.rf)
  · refine zV_iload_n dX7_toss_8 rfl 2 rfl rfl ?_
    refine zV_iconst (v := (nI 0)) dX7_toss_9 rfl rfl ?_
    refine zV_bipush (v := (nI 20)) dX7_toss_10 rfl rfl ?_
    refine zV_callS (E' := eX7_within (g_rmv 0)) (av := [.int y, .int (nI 0), .int (nI 20)]) (st := []) dX7_toss_12 rfl (k_RX7_72 _) rfl ⟨by decide, by decide⟩ ⟨by decide, by decide⟩ (Or.inl rfl) rfl (Nat.le_of_ble_eq_true rfl) (m_within (x := y) (y := (nI 0)) (z := (nI 20))) (fun r12 M12 z => ?_)
    obtain ⟨rfl, rfl⟩ := z
    show zV G (eX7_toss (g_rmv 2)) (0, 0) 15 [(0, .ref 76), (1, .int x), (2, .int y)] [.int (b2 (inR y 20))] (mm I J t) _
    refine zB_if_ne (tgt := 25) dX7_toss_15 rfl rfl  (fun h15 => ?_) (fun h15 => ?_)
    · obtain ⟨s, hs, hs1, rfl⟩ := z_sets n10 h5
      obtain ⟨n, hn, rfl⟩ := (inR_iff (by decide)).mp h15
      have nb : n * (pcnt s) ≤ 20 * 10 := Nat.mul_le_mul hn (pcnt_le s)
      refine zV_iconst (v := (nI 0)) dX7_toss_25 rfl rfl ?_
      refine zV_istore_n (lv' := [(0, .ref 76), (1, .int (nI s)), (2, .int (nI n)), (3, .int (nI 0))]) dX7_toss_26 rfl rfl (by decide) rfl ?_
      refine zV_iconst (v := (nI 0)) dX7_toss_27 rfl rfl ?_
      refine zV_istore (lv' := [(0, .ref 76), (1, .int (nI s)), (2, .int (nI n)), (3, .int (nI 0)), (4, .int (nI 0))]) dX7_toss_28 rfl (by decide) rfl ?_
      refine z_for (fun c => ∀ (I1 : Nat → Nat → Int32), (absR I1 77 (ld_z S.1 (zs S.1.2.2.2.2 c)) ∧ frM I I1) → zV G (eX7_toss (g_rmv 2)) (0, 0) 30 [(0, .ref 76), (1, .int (nI s)), (2, .int (nI n)), (3, .int (nI (fb_ct (fun i => decide (zn (zs S.1.2.2.2.2 i) % 2 = 0)) c))), (4, .int (nI c))] [] (mm I1 J t) _) (n * (pcnt s)) ?_ ?_ 0 (Nat.zero_le _) I ⟨by rw [show ld_z S.1 (zs S.1.2.2.2.2 0) = S.1 from rfl]; exact hM.1, frM.rf⟩
      · intro I1 h1
        refine zV_iload dX7_toss_30 rfl 4 rfl ?_
        refine zV_iload_n dX7_toss_32 rfl 2 rfl rfl ?_
        refine zV_iload_n dX7_toss_33 rfl 1 rfl rfl ?_
        refine zV_callS (E' := eX7_bits (g_rmv 0)) (av := [.int (nI s)]) (st := [.int (nI n), .int (nI (n * (pcnt s)))]) dX7_toss_34 rfl (k_RX7_186 _) rfl ⟨by decide, by decide⟩ ⟨by decide, by decide⟩ (Or.inl rfl) rfl (Nat.le_of_ble_eq_true rfl) (m_bits (s := s) (by omega)) (fun r34 M34 z => ?_)
        obtain ⟨rfl, rfl⟩ := z
        show zV G (eX7_toss (g_rmv 2)) (0, 0) 37 [(0, .ref 76), (1, .int (nI s)), (2, .int (nI n)), (3, .int (nI (fb_ct (fun i => decide (zn (zs S.1.2.2.2.2 i) % 2 = 0)) (n * (pcnt s))))), (4, .int (nI (n * (pcnt s))))] [.int (nI (pcnt s)), .int (nI n), .int (nI (n * (pcnt s)))] (mm I1 J t) _
        refine zA_imul (z := (nI (n * (pcnt s)))) dX7_toss_37 rfl  (pk_mul _ _) ?_
        refine zN_icmp_ge (tgt := 64) dX7_toss_38 rfl rfl (by omega) (by omega) (fun _ => ?_) (fun z => absurd z (by omega))
        refine zV_iload_n dX7_toss_64 rfl 3 rfl rfl ?_
        exact zV_ireturn dX7_toss_65 rfl rfl (PM.land hM (by unfold op_toss; rw [if_pos h5, if_pos h15, tn_nI (show s < 2 ^ 31 by omega), tn_nI (show n < 2 ^ 31 by omega)]) scM.rf h1.1 h1.2)
      · intro c hc ih
        intro I1 h1
        refine zV_iload dX7_toss_30 rfl 4 rfl ?_
        refine zV_iload_n dX7_toss_32 rfl 2 rfl rfl ?_
        refine zV_iload_n dX7_toss_33 rfl 1 rfl rfl ?_
        refine zV_callS (E' := eX7_bits (g_rmv 0)) (av := [.int (nI s)]) (st := [.int (nI n), .int (nI c)]) dX7_toss_34 rfl (k_RX7_186 _) rfl ⟨by decide, by decide⟩ ⟨by decide, by decide⟩ (Or.inl rfl) rfl (Nat.le_of_ble_eq_true rfl) (m_bits (s := s) (by omega)) (fun r34 M34 z => ?_)
        obtain ⟨rfl, rfl⟩ := z
        show zV G (eX7_toss (g_rmv 2)) (0, 0) 37 [(0, .ref 76), (1, .int (nI s)), (2, .int (nI n)), (3, .int (nI (fb_ct (fun i => decide (zn (zs S.1.2.2.2.2 i) % 2 = 0)) c))), (4, .int (nI c))] [.int (nI (pcnt s)), .int (nI n), .int (nI c)] (mm I1 J t) _
        refine zA_imul (z := (nI (n * (pcnt s)))) dX7_toss_37 rfl  (pk_mul _ _) ?_
        refine zN_icmp_ge (tgt := 64) dX7_toss_38 rfl rfl (by omega) (by omega) (fun z => absurd z (by omega)) (fun _ => ?_)
        refine zV_iload_n dX7_toss_41 rfl 3 rfl rfl ?_
        refine zV_aload_n dX7_toss_42 rfl 0 rfl rfl ?_
        refine zV_callV (E' := eX7_drawn (g_rmv 0)) (av := []) (st := [.int (nI (fb_ct (fun i => decide (zn (zs S.1.2.2.2.2 i) % 2 = 0)) c))]) (b := 76) dX7_toss_43 rfl (k_RX7_224 _) rfl ⟨by decide, by decide⟩ ⟨by decide, by decide⟩ (Or.inl rfl) rfl (Nat.le_of_ble_eq_true rfl) rfl rfl rfl (m_drawn h1.1 (wf_z hw.1)) (fun r43 M43 z => ?_)
        obtain ⟨I50, rfl, rfl, hA50, hF50⟩ := z
        rw [ld_z_z, ld_z_at] at hA50
        rw [ld_z_at]
        show zV G (eX7_toss (g_rmv 2)) (0, 0) 46 [(0, .ref 76), (1, .int (nI s)), (2, .int (nI n)), (3, .int (nI (fb_ct (fun i => decide (zn (zs S.1.2.2.2.2 i) % 2 = 0)) c))), (4, .int (nI c))] [.int (nI (zn (zs S.1.2.2.2.2 c))), .int (nI (fb_ct (fun i => decide (zn (zs S.1.2.2.2.2 i) % 2 = 0)) c))] (mm I50 J t) _
        refine zV_iconst (v := (nI 2)) dX7_toss_46 rfl rfl ?_
        refine zA_irem (z := (nI (zn (zs S.1.2.2.2.2 c) % 2))) dX7_toss_47 rfl (by decide) (mk_rem _ (by decide) (by decide)) ?_
        refine zN_if_ne (tgt := 55) dX7_toss_48 rfl rfl (by omega) (fun h48 => ?_) (fun h48 => ?_)
        · refine zV_iconst (v := (nI 0)) dX7_toss_55 rfl rfl ?_
          refine zA_iadd (z := (nI (fb_ct (fun i => decide (zn (zs S.1.2.2.2.2 i) % 2 = 0)) c))) dX7_toss_56 rfl  (z_add0 _) ?_
          refine zV_istore_n (lv' := [(0, .ref 76), (1, .int (nI s)), (2, .int (nI n)), (3, .int (nI (fb_ct (fun i => decide (zn (zs S.1.2.2.2.2 i) % 2 = 0)) c))), (4, .int (nI c))]) dX7_toss_57 rfl rfl (by decide) rfl ?_
          refine zV_iinc (y := (nI (c + 1))) (lv' := [(0, .ref 76), (1, .int (nI s)), (2, .int (nI n)), (3, .int (nI (fb_ct (fun i => decide (zn (zs S.1.2.2.2.2 i) % 2 = 0)) c))), (4, .int (nI (c + 1)))]) dX7_toss_58 rfl 4 rfl (nI_1 _) (by decide) rfl ?_
          refine zV_goto (tgt := 30) dX7_toss_61 rfl ?_
          rw [show fb_ct (fun i => decide (zn (zs S.1.2.2.2.2 i) % 2 = 0)) (c + 1) = (fb_ct (fun i => decide (zn (zs S.1.2.2.2.2 i) % 2 = 0)) c) by rw [fb_ct_succ]; simp [h48]] at ih
          exact ih _ ⟨by rw [show zs S.1.2.2.2.2 (c + 1) = zd (zs S.1.2.2.2.2 c) from rfl]; exact hA50, h1.2.tr hF50⟩
        · refine zV_iconst (v := (nI 1)) dX7_toss_51 rfl rfl ?_
          refine zV_goto (tgt := 56) dX7_toss_52 rfl ?_
          refine zA_iadd (z := (nI ((fb_ct (fun i => decide (zn (zs S.1.2.2.2.2 i) % 2 = 0)) c) + 1))) dX7_toss_56 rfl  (nI_add _ _) ?_
          refine zV_istore_n (lv' := [(0, .ref 76), (1, .int (nI s)), (2, .int (nI n)), (3, .int (nI ((fb_ct (fun i => decide (zn (zs S.1.2.2.2.2 i) % 2 = 0)) c) + 1))), (4, .int (nI c))]) dX7_toss_57 rfl rfl (by decide) rfl ?_
          refine zV_iinc (y := (nI (c + 1))) (lv' := [(0, .ref 76), (1, .int (nI s)), (2, .int (nI n)), (3, .int (nI ((fb_ct (fun i => decide (zn (zs S.1.2.2.2.2 i) % 2 = 0)) c) + 1))), (4, .int (nI (c + 1)))]) dX7_toss_58 rfl 4 rfl (nI_1 _) (by decide) rfl ?_
          refine zV_goto (tgt := 30) dX7_toss_61 rfl ?_
          rw [show fb_ct (fun i => decide (zn (zs S.1.2.2.2.2 i) % 2 = 0)) (c + 1) = ((fb_ct (fun i => decide (zn (zs S.1.2.2.2.2 i) % 2 = 0)) c) + 1) by rw [fb_ct_succ]; simp [h48]] at ih
          exact ih _ ⟨by rw [show zs S.1.2.2.2.2 (c + 1) = zd (zs S.1.2.2.2.2 c) from rfl]; exact hA50, h1.2.tr hF50⟩
    · refine zV_aload_n dX7_toss_18 rfl 0 rfl rfl ?_
      refine zV_ldc (v := (-1000001)) dX7_toss_19 rfl tw970 ?_
      refine zV_callV (E' := eX7_finding (g_rmv 0)) (av := [.int (-1000001)]) (st := []) (b := 76) dX7_toss_21 rfl (k_RX7_87 _) rfl ⟨by decide, by decide⟩ ⟨by decide, by decide⟩ (Or.inl rfl) rfl (Nat.le_of_ble_eq_true rfl) rfl rfl rfl (m_finding (w := 0) (by decide) (by decide)) (fun r21 M21 z => ?_)
      obtain ⟨rfl, rfl⟩ := z
      show zV G (eX7_toss (g_rmv 2)) (0, 0) 24 [(0, .ref 76), (1, .int x), (2, .int y)] [.int (fdg 0)] (mm (mTell I 0) J t) _
      exact zV_ireturn dX7_toss_24 rfl rfl (PM.tell hM (by decide) (by unfold op_toss; rw [if_pos h5, if_neg h15]) scM.rf)

set_option maxRecDepth 100000 in
theorem p_feed {G : mG} {I : Nat → Nat → Int32} {J : Nat → Nat → Int64} {t : Nat} {B : Nat} {S : aS} (hC : InvC I S) (hw : wfS B S) {x y : Int32} : zC G yX6_feed (eX6_feed (g_rmv 2)) [.ref 0, .int x, .int y] (mm I J t) (fun r M => PC I (op_feed S x y) r M) := by
  refine zC_of (by decide +kernel) rfl (by decide) (Nat.le_of_ble_eq_true rfl) ?_
  have n10 := hw.1.1
  have t120 := hw.2.2.2.1
  show zV G (eX6_feed (g_rmv 2)) (0, 0) 0 [(0, .ref 0), (1, .int x), (2, .int y)] [] (mm I J t) _
  refine zV_iload_n dX6_feed_0 rfl 2 rfl rfl ?_
  refine zV_iconst (v := (nI 1)) dX6_feed_1 rfl rfl ?_
  refine zV_icmp_lt (tgt := 10) dX6_feed_2 rfl rfl  (fun h2 => ?_) (fun h2 => ?_)
  · refine zV_aload_n dX6_feed_10 rfl 0 rfl rfl ?_
    refine zV_ldc (v := (-1000001)) dX6_feed_11 rfl tw264 ?_
    refine zV_callV (E' := eX6_tell (g_rmv 1)) (av := [.int (-1000001)]) (st := []) (b := 0) dX6_feed_13 rfl (k_RX6_70 _) rfl ⟨by decide, by decide⟩ ⟨by decide, by decide⟩ (Or.inl rfl) rfl (Nat.le_of_ble_eq_true rfl) rfl rfl rfl (c_tell (w := 0) (by decide) (by decide)) (fun r13 M13 z => ?_)
    obtain ⟨rfl, rfl⟩ := z
    show zV G (eX6_feed (g_rmv 2)) (0, 0) 16 [(0, .ref 0), (1, .int x), (2, .int y)] [.int (fdg 0)] (mm (up2 I 67 0 (I 67 0 + nI 1)) J t) _
    exact zV_ireturn dX6_feed_16 rfl rfl (PC.tell hC hw (by unfold op_feed; rw [if_neg (show ¬ (nI 1 ≤ y ∧ y ≤ nI 4) from fun q => (Int32.not_le.mpr h2) q.1)]) (fun _ _ => rfl))
  · refine zV_iload_n dX6_feed_5 rfl 2 rfl rfl ?_
    refine zV_iconst (v := (nI 4)) dX6_feed_6 rfl rfl ?_
    refine zV_icmp_le (tgt := 17) dX6_feed_7 rfl rfl  (fun h7 => ?_) (fun h7 => ?_)
    · obtain ⟨n, hn1, hn2, rfl⟩ := z_rng (by decide) (by decide) (show nI 1 ≤ y ∧ y ≤ nI 4 from ⟨Int32.not_lt.mp h2, h7⟩)
      refine zV_aload_n dX6_feed_17 rfl 0 rfl rfl ?_
      refine zV_getI (x := (nI S.2.2.2.1.1)) 5 dX6_feed_18 rfl fl_RX6_30 rfl (by decide) rfl hC.2.2.2.1 ?_
      refine zV_iload_n dX6_feed_21 rfl 2 rfl rfl ?_
      refine zA_iadd (z := (nI (S.2.2.2.1.1 + n))) dX6_feed_22 rfl  (nI_add _ _) ?_
      refine zV_bipush (v := (nI 120)) dX6_feed_23 rfl rfl ?_
      refine zN_icmp_le (tgt := 35) dX6_feed_25 rfl rfl (by omega) (by omega) (fun h25 => ?_) (fun h25 => ?_)
      · rcases (show n = 1 ∨ n = 2 ∨ n = 3 ∨ n = 4 by omega) with rfl | rfl | rfl | rfl
        · show zV G (eX6_feed (g_rmv 2)) (0, 0) 35 [(0, .ref 0), (1, .int x), (2, .int (nI 1))] [] (mm I J t) _
          refine zV_iload_n dX6_feed_35 rfl 2 rfl rfl ?_
          refine zV_iconst (v := (nI 1)) dX6_feed_36 rfl rfl ?_
          refine zA_isub (z := (nI 0)) dX6_feed_37 rfl  (by decide) ?_
          refine zV_istore_n (lv' := [(0, .ref 0), (1, .int x), (2, .int (nI 1)), (3, .int (nI 0))]) dX6_feed_38 rfl rfl (by decide) rfl ?_
          refine zV_iload_n dX6_feed_39 rfl 3 rfl rfl ?_
          refine zN_if_lt (tgt := 78) dX6_feed_40 rfl (by decide) rfl ?_
          refine zV_aload_n dX6_feed_43 rfl 0 rfl rfl ?_
          refine zV_getr (q' := 40) 4 dX6_feed_44 rfl fl_RX6_26 rfl (by decide) rfl rfl ?_
          refine zV_aload_n dX6_feed_47 rfl 0 rfl rfl ?_
          refine zV_getI (x := (nI S.2.2.2.1.1)) 5 dX6_feed_48 rfl fl_RX6_30 rfl (by decide) rfl hC.2.2.2.1 ?_
          refine zV_iload_n dX6_feed_51 rfl 1 rfl rfl ?_
          refine zV_bipush (v := (nI 8)) dX6_feed_52 rfl rfl ?_
          refine zV_iload_n dX6_feed_54 rfl 3 rfl rfl ?_
          refine zA_imul (z := (nI (8 * 0))) dX6_feed_55 rfl  (pk_mul _ _) ?_
          refine zA_iushr (z := (((x).toUInt32 >>> (((nI (8 * 0))).toUInt32 &&& Int32.toUInt32 31)).toInt32)) dX6_feed_56 rfl  (rfl) ?_
          refine zV_sipush (v := (nI 255)) dX6_feed_57 rfl rfl ?_
          refine zA_iand (z := (nI (fby x 0))) dX6_feed_60 rfl  (z_hu x 0 (by decide)) ?_
          refine zV_iastore S.2.2.2.1.1 dX6_feed_61 rfl rfl rfl (by omega) (by decide)  ?_
          refine zV_aload_n dX6_feed_62 rfl 0 rfl rfl ?_
          refine zV_dup dX6_feed_63 rfl rfl ?_
          refine zV_getI (x := (nI S.2.2.2.1.1)) 5 dX6_feed_64 rfl fl_RX6_30 rfl (by decide) rfl (by rw [up2_ni (by decide)]; exact hC.2.2.2.1) ?_
          refine zV_iconst (v := (nI 1)) dX6_feed_67 rfl rfl ?_
          refine zA_iadd (z := (nI (S.2.2.2.1.1 + 1))) dX6_feed_68 rfl  (nI_1 _) ?_
          refine zV_puti 5 dX6_feed_69 rfl fl_RX6_30 rfl (by decide) rfl rfl rfl ?_
          refine zV_iinc (y := (-1)) (lv' := [(0, .ref 0), (1, .int x), (2, .int (nI 1)), (3, .int (-1))]) dX6_feed_72 rfl 3 rfl (by decide) (by decide) rfl ?_
          refine zV_goto (tgt := 39) dX6_feed_75 rfl ?_
          refine zV_iload_n dX6_feed_39 rfl 3 rfl rfl ?_
          refine zV_if_lt (tgt := 78) dX6_feed_40 rfl rfl  (fun _ => ?_) (fun z => absurd z (by decide))
          refine zV_aload_n dX6_feed_78 rfl 0 rfl rfl ?_
          refine zV_getI (x := (nI (S.2.2.2.1.1 + 1))) 5 dX6_feed_79 rfl fl_RX6_30 rfl (by decide) rfl (up2_same _ _ _ _) ?_
          exact zV_ireturn dX6_feed_82 rfl rfl (⟨_, _, _, by rw [show op_feed S x (nI 1) = (nI (S.2.2.2.1.1 + 1), st_t S (S.2.2.2.1.1 + 1, ft S.2.2.2.1.1 1 S.2.2.2.1.2 x)) by unfold op_feed; rw [if_pos (by decide), show tn (nI 1) = 1 from tn_nI (by decide), if_pos (show S.2.2.2.1.1 + 1 ≤ 120 by omega)]], rfl, by rw [show op_feed S x (nI 1) = (nI (S.2.2.2.1.1 + 1), st_t S (S.2.2.2.1.1 + 1, ft S.2.2.2.1.1 1 S.2.2.2.1.2 x)) by unfold op_feed; rw [if_pos (by decide), show tn (nI 1) = 1 from tn_nI (by decide), if_pos (show S.2.2.2.1.1 + 1 ≤ 120 by omega)]]; exact hC.tape hw (up2_same _ _ _ _) (by simp [up2]) (fun j hj => by unfold ft; by_cases h0 : j < S.2.2.2.1.1; (· rw [if_pos h0]; simp only [up2, show ¬ j = S.2.2.2.1.1 by omega, if_false, if_true, reduceIte, show ¬ (40 : Nat) = 0 by decide, show ¬ (82 : Nat) = 76 by decide]; exact hC.2.2.2.2.1 j h0); rw [if_neg h0]; rcases (show j = S.2.2.2.1.1 by omega) with rfl; (· rw [show 1 - 1 - (S.2.2.2.1.1 - S.2.2.2.1.1) = 0 by omega]; simp [up2])) (fun i h0 h40 => by funext k; simp [up2, h0, h40]), fun i hi => by funext k; simp [up2, show ¬ i = 0 by omega, show ¬ i = 40 by omega]⟩)
        · show zV G (eX6_feed (g_rmv 2)) (0, 0) 35 [(0, .ref 0), (1, .int x), (2, .int (nI 2))] [] (mm I J t) _
          refine zV_iload_n dX6_feed_35 rfl 2 rfl rfl ?_
          refine zV_iconst (v := (nI 1)) dX6_feed_36 rfl rfl ?_
          refine zA_isub (z := (nI 1)) dX6_feed_37 rfl  (by decide) ?_
          refine zV_istore_n (lv' := [(0, .ref 0), (1, .int x), (2, .int (nI 2)), (3, .int (nI 1))]) dX6_feed_38 rfl rfl (by decide) rfl ?_
          refine zV_iload_n dX6_feed_39 rfl 3 rfl rfl ?_
          refine zN_if_lt (tgt := 78) dX6_feed_40 rfl (by decide) rfl ?_
          refine zV_aload_n dX6_feed_43 rfl 0 rfl rfl ?_
          refine zV_getr (q' := 40) 4 dX6_feed_44 rfl fl_RX6_26 rfl (by decide) rfl rfl ?_
          refine zV_aload_n dX6_feed_47 rfl 0 rfl rfl ?_
          refine zV_getI (x := (nI S.2.2.2.1.1)) 5 dX6_feed_48 rfl fl_RX6_30 rfl (by decide) rfl hC.2.2.2.1 ?_
          refine zV_iload_n dX6_feed_51 rfl 1 rfl rfl ?_
          refine zV_bipush (v := (nI 8)) dX6_feed_52 rfl rfl ?_
          refine zV_iload_n dX6_feed_54 rfl 3 rfl rfl ?_
          refine zA_imul (z := (nI (8 * 1))) dX6_feed_55 rfl  (pk_mul _ _) ?_
          refine zA_iushr (z := (((x).toUInt32 >>> (((nI (8 * 1))).toUInt32 &&& Int32.toUInt32 31)).toInt32)) dX6_feed_56 rfl  (rfl) ?_
          refine zV_sipush (v := (nI 255)) dX6_feed_57 rfl rfl ?_
          refine zA_iand (z := (nI (fby x 1))) dX6_feed_60 rfl  (z_hu x 1 (by decide)) ?_
          refine zV_iastore S.2.2.2.1.1 dX6_feed_61 rfl rfl rfl (by omega) (by decide)  ?_
          refine zV_aload_n dX6_feed_62 rfl 0 rfl rfl ?_
          refine zV_dup dX6_feed_63 rfl rfl ?_
          refine zV_getI (x := (nI S.2.2.2.1.1)) 5 dX6_feed_64 rfl fl_RX6_30 rfl (by decide) rfl (by rw [up2_ni (by decide)]; exact hC.2.2.2.1) ?_
          refine zV_iconst (v := (nI 1)) dX6_feed_67 rfl rfl ?_
          refine zA_iadd (z := (nI (S.2.2.2.1.1 + 1))) dX6_feed_68 rfl  (nI_1 _) ?_
          refine zV_puti 5 dX6_feed_69 rfl fl_RX6_30 rfl (by decide) rfl rfl rfl ?_
          refine zV_iinc (y := (nI 0)) (lv' := [(0, .ref 0), (1, .int x), (2, .int (nI 2)), (3, .int (nI 0))]) dX6_feed_72 rfl 3 rfl (by decide) (by decide) rfl ?_
          refine zV_goto (tgt := 39) dX6_feed_75 rfl ?_
          refine zV_iload_n dX6_feed_39 rfl 3 rfl rfl ?_
          refine zN_if_lt (tgt := 78) dX6_feed_40 rfl (by decide) rfl ?_
          refine zV_aload_n dX6_feed_43 rfl 0 rfl rfl ?_
          refine zV_getr (q' := 40) 4 dX6_feed_44 rfl fl_RX6_26 rfl (by decide) rfl rfl ?_
          refine zV_aload_n dX6_feed_47 rfl 0 rfl rfl ?_
          refine zV_getI (x := (nI (S.2.2.2.1.1 + 1))) 5 dX6_feed_48 rfl fl_RX6_30 rfl (by decide) rfl (up2_same _ _ _ _) ?_
          refine zV_iload_n dX6_feed_51 rfl 1 rfl rfl ?_
          refine zV_bipush (v := (nI 8)) dX6_feed_52 rfl rfl ?_
          refine zV_iload_n dX6_feed_54 rfl 3 rfl rfl ?_
          refine zA_imul (z := (nI (8 * 0))) dX6_feed_55 rfl  (pk_mul _ _) ?_
          refine zA_iushr (z := (((x).toUInt32 >>> (((nI (8 * 0))).toUInt32 &&& Int32.toUInt32 31)).toInt32)) dX6_feed_56 rfl  (rfl) ?_
          refine zV_sipush (v := (nI 255)) dX6_feed_57 rfl rfl ?_
          refine zA_iand (z := (nI (fby x 0))) dX6_feed_60 rfl  (z_hu x 0 (by decide)) ?_
          refine zV_iastore (S.2.2.2.1.1 + 1) dX6_feed_61 rfl rfl rfl (by omega) (by decide)  ?_
          refine zV_aload_n dX6_feed_62 rfl 0 rfl rfl ?_
          refine zV_dup dX6_feed_63 rfl rfl ?_
          refine zV_getI (x := (nI (S.2.2.2.1.1 + 1))) 5 dX6_feed_64 rfl fl_RX6_30 rfl (by decide) rfl (by rw [up2_ni (by decide)]; exact (up2_same _ _ _ _)) ?_
          refine zV_iconst (v := (nI 1)) dX6_feed_67 rfl rfl ?_
          refine zA_iadd (z := (nI (S.2.2.2.1.1 + 2))) dX6_feed_68 rfl  (nI_1 _) ?_
          refine zV_puti 5 dX6_feed_69 rfl fl_RX6_30 rfl (by decide) rfl rfl rfl ?_
          refine zV_iinc (y := (-1)) (lv' := [(0, .ref 0), (1, .int x), (2, .int (nI 2)), (3, .int (-1))]) dX6_feed_72 rfl 3 rfl (by decide) (by decide) rfl ?_
          refine zV_goto (tgt := 39) dX6_feed_75 rfl ?_
          refine zV_iload_n dX6_feed_39 rfl 3 rfl rfl ?_
          refine zV_if_lt (tgt := 78) dX6_feed_40 rfl rfl  (fun _ => ?_) (fun z => absurd z (by decide))
          refine zV_aload_n dX6_feed_78 rfl 0 rfl rfl ?_
          refine zV_getI (x := (nI (S.2.2.2.1.1 + 2))) 5 dX6_feed_79 rfl fl_RX6_30 rfl (by decide) rfl (up2_same _ _ _ _) ?_
          exact zV_ireturn dX6_feed_82 rfl rfl (⟨_, _, _, by rw [show op_feed S x (nI 2) = (nI (S.2.2.2.1.1 + 2), st_t S (S.2.2.2.1.1 + 2, ft S.2.2.2.1.1 2 S.2.2.2.1.2 x)) by unfold op_feed; rw [if_pos (by decide), show tn (nI 2) = 2 from tn_nI (by decide), if_pos (show S.2.2.2.1.1 + 2 ≤ 120 by omega)]], rfl, by rw [show op_feed S x (nI 2) = (nI (S.2.2.2.1.1 + 2), st_t S (S.2.2.2.1.1 + 2, ft S.2.2.2.1.1 2 S.2.2.2.1.2 x)) by unfold op_feed; rw [if_pos (by decide), show tn (nI 2) = 2 from tn_nI (by decide), if_pos (show S.2.2.2.1.1 + 2 ≤ 120 by omega)]]; exact hC.tape hw (up2_same _ _ _ _) (by simp [up2]) (fun j hj => by unfold ft; by_cases h0 : j < S.2.2.2.1.1; (· rw [if_pos h0]; simp only [up2, show ¬ j = S.2.2.2.1.1 by omega, show ¬ j = (S.2.2.2.1.1 + 1) by omega, if_false, if_true, reduceIte, show ¬ (40 : Nat) = 0 by decide, show ¬ (82 : Nat) = 76 by decide]; exact hC.2.2.2.2.1 j h0); rw [if_neg h0]; rcases (show j = S.2.2.2.1.1 ∨ j = (S.2.2.2.1.1 + 1) by omega) with rfl | rfl; (· rw [show 2 - 1 - (S.2.2.2.1.1 - S.2.2.2.1.1) = 1 by omega]; simp [up2]); (· rw [show 2 - 1 - ((S.2.2.2.1.1 + 1) - S.2.2.2.1.1) = 0 by omega]; simp [up2])) (fun i h0 h40 => by funext k; simp [up2, h0, h40]), fun i hi => by funext k; simp [up2, show ¬ i = 0 by omega, show ¬ i = 40 by omega]⟩)
        · show zV G (eX6_feed (g_rmv 2)) (0, 0) 35 [(0, .ref 0), (1, .int x), (2, .int (nI 3))] [] (mm I J t) _
          refine zV_iload_n dX6_feed_35 rfl 2 rfl rfl ?_
          refine zV_iconst (v := (nI 1)) dX6_feed_36 rfl rfl ?_
          refine zA_isub (z := (nI 2)) dX6_feed_37 rfl  (by decide) ?_
          refine zV_istore_n (lv' := [(0, .ref 0), (1, .int x), (2, .int (nI 3)), (3, .int (nI 2))]) dX6_feed_38 rfl rfl (by decide) rfl ?_
          refine zV_iload_n dX6_feed_39 rfl 3 rfl rfl ?_
          refine zN_if_lt (tgt := 78) dX6_feed_40 rfl (by decide) rfl ?_
          refine zV_aload_n dX6_feed_43 rfl 0 rfl rfl ?_
          refine zV_getr (q' := 40) 4 dX6_feed_44 rfl fl_RX6_26 rfl (by decide) rfl rfl ?_
          refine zV_aload_n dX6_feed_47 rfl 0 rfl rfl ?_
          refine zV_getI (x := (nI S.2.2.2.1.1)) 5 dX6_feed_48 rfl fl_RX6_30 rfl (by decide) rfl hC.2.2.2.1 ?_
          refine zV_iload_n dX6_feed_51 rfl 1 rfl rfl ?_
          refine zV_bipush (v := (nI 8)) dX6_feed_52 rfl rfl ?_
          refine zV_iload_n dX6_feed_54 rfl 3 rfl rfl ?_
          refine zA_imul (z := (nI (8 * 2))) dX6_feed_55 rfl  (pk_mul _ _) ?_
          refine zA_iushr (z := (((x).toUInt32 >>> (((nI (8 * 2))).toUInt32 &&& Int32.toUInt32 31)).toInt32)) dX6_feed_56 rfl  (rfl) ?_
          refine zV_sipush (v := (nI 255)) dX6_feed_57 rfl rfl ?_
          refine zA_iand (z := (nI (fby x 2))) dX6_feed_60 rfl  (z_hu x 2 (by decide)) ?_
          refine zV_iastore S.2.2.2.1.1 dX6_feed_61 rfl rfl rfl (by omega) (by decide)  ?_
          refine zV_aload_n dX6_feed_62 rfl 0 rfl rfl ?_
          refine zV_dup dX6_feed_63 rfl rfl ?_
          refine zV_getI (x := (nI S.2.2.2.1.1)) 5 dX6_feed_64 rfl fl_RX6_30 rfl (by decide) rfl (by rw [up2_ni (by decide)]; exact hC.2.2.2.1) ?_
          refine zV_iconst (v := (nI 1)) dX6_feed_67 rfl rfl ?_
          refine zA_iadd (z := (nI (S.2.2.2.1.1 + 1))) dX6_feed_68 rfl  (nI_1 _) ?_
          refine zV_puti 5 dX6_feed_69 rfl fl_RX6_30 rfl (by decide) rfl rfl rfl ?_
          refine zV_iinc (y := (nI 1)) (lv' := [(0, .ref 0), (1, .int x), (2, .int (nI 3)), (3, .int (nI 1))]) dX6_feed_72 rfl 3 rfl (by decide) (by decide) rfl ?_
          refine zV_goto (tgt := 39) dX6_feed_75 rfl ?_
          refine zV_iload_n dX6_feed_39 rfl 3 rfl rfl ?_
          refine zN_if_lt (tgt := 78) dX6_feed_40 rfl (by decide) rfl ?_
          refine zV_aload_n dX6_feed_43 rfl 0 rfl rfl ?_
          refine zV_getr (q' := 40) 4 dX6_feed_44 rfl fl_RX6_26 rfl (by decide) rfl rfl ?_
          refine zV_aload_n dX6_feed_47 rfl 0 rfl rfl ?_
          refine zV_getI (x := (nI (S.2.2.2.1.1 + 1))) 5 dX6_feed_48 rfl fl_RX6_30 rfl (by decide) rfl (up2_same _ _ _ _) ?_
          refine zV_iload_n dX6_feed_51 rfl 1 rfl rfl ?_
          refine zV_bipush (v := (nI 8)) dX6_feed_52 rfl rfl ?_
          refine zV_iload_n dX6_feed_54 rfl 3 rfl rfl ?_
          refine zA_imul (z := (nI (8 * 1))) dX6_feed_55 rfl  (pk_mul _ _) ?_
          refine zA_iushr (z := (((x).toUInt32 >>> (((nI (8 * 1))).toUInt32 &&& Int32.toUInt32 31)).toInt32)) dX6_feed_56 rfl  (rfl) ?_
          refine zV_sipush (v := (nI 255)) dX6_feed_57 rfl rfl ?_
          refine zA_iand (z := (nI (fby x 1))) dX6_feed_60 rfl  (z_hu x 1 (by decide)) ?_
          refine zV_iastore (S.2.2.2.1.1 + 1) dX6_feed_61 rfl rfl rfl (by omega) (by decide)  ?_
          refine zV_aload_n dX6_feed_62 rfl 0 rfl rfl ?_
          refine zV_dup dX6_feed_63 rfl rfl ?_
          refine zV_getI (x := (nI (S.2.2.2.1.1 + 1))) 5 dX6_feed_64 rfl fl_RX6_30 rfl (by decide) rfl (by rw [up2_ni (by decide)]; exact (up2_same _ _ _ _)) ?_
          refine zV_iconst (v := (nI 1)) dX6_feed_67 rfl rfl ?_
          refine zA_iadd (z := (nI (S.2.2.2.1.1 + 2))) dX6_feed_68 rfl  (nI_1 _) ?_
          refine zV_puti 5 dX6_feed_69 rfl fl_RX6_30 rfl (by decide) rfl rfl rfl ?_
          refine zV_iinc (y := (nI 0)) (lv' := [(0, .ref 0), (1, .int x), (2, .int (nI 3)), (3, .int (nI 0))]) dX6_feed_72 rfl 3 rfl (by decide) (by decide) rfl ?_
          refine zV_goto (tgt := 39) dX6_feed_75 rfl ?_
          refine zV_iload_n dX6_feed_39 rfl 3 rfl rfl ?_
          refine zN_if_lt (tgt := 78) dX6_feed_40 rfl (by decide) rfl ?_
          refine zV_aload_n dX6_feed_43 rfl 0 rfl rfl ?_
          refine zV_getr (q' := 40) 4 dX6_feed_44 rfl fl_RX6_26 rfl (by decide) rfl rfl ?_
          refine zV_aload_n dX6_feed_47 rfl 0 rfl rfl ?_
          refine zV_getI (x := (nI (S.2.2.2.1.1 + 2))) 5 dX6_feed_48 rfl fl_RX6_30 rfl (by decide) rfl (up2_same _ _ _ _) ?_
          refine zV_iload_n dX6_feed_51 rfl 1 rfl rfl ?_
          refine zV_bipush (v := (nI 8)) dX6_feed_52 rfl rfl ?_
          refine zV_iload_n dX6_feed_54 rfl 3 rfl rfl ?_
          refine zA_imul (z := (nI (8 * 0))) dX6_feed_55 rfl  (pk_mul _ _) ?_
          refine zA_iushr (z := (((x).toUInt32 >>> (((nI (8 * 0))).toUInt32 &&& Int32.toUInt32 31)).toInt32)) dX6_feed_56 rfl  (rfl) ?_
          refine zV_sipush (v := (nI 255)) dX6_feed_57 rfl rfl ?_
          refine zA_iand (z := (nI (fby x 0))) dX6_feed_60 rfl  (z_hu x 0 (by decide)) ?_
          refine zV_iastore (S.2.2.2.1.1 + 2) dX6_feed_61 rfl rfl rfl (by omega) (by decide)  ?_
          refine zV_aload_n dX6_feed_62 rfl 0 rfl rfl ?_
          refine zV_dup dX6_feed_63 rfl rfl ?_
          refine zV_getI (x := (nI (S.2.2.2.1.1 + 2))) 5 dX6_feed_64 rfl fl_RX6_30 rfl (by decide) rfl (by rw [up2_ni (by decide)]; exact (up2_same _ _ _ _)) ?_
          refine zV_iconst (v := (nI 1)) dX6_feed_67 rfl rfl ?_
          refine zA_iadd (z := (nI (S.2.2.2.1.1 + 3))) dX6_feed_68 rfl  (nI_1 _) ?_
          refine zV_puti 5 dX6_feed_69 rfl fl_RX6_30 rfl (by decide) rfl rfl rfl ?_
          refine zV_iinc (y := (-1)) (lv' := [(0, .ref 0), (1, .int x), (2, .int (nI 3)), (3, .int (-1))]) dX6_feed_72 rfl 3 rfl (by decide) (by decide) rfl ?_
          refine zV_goto (tgt := 39) dX6_feed_75 rfl ?_
          refine zV_iload_n dX6_feed_39 rfl 3 rfl rfl ?_
          refine zV_if_lt (tgt := 78) dX6_feed_40 rfl rfl  (fun _ => ?_) (fun z => absurd z (by decide))
          refine zV_aload_n dX6_feed_78 rfl 0 rfl rfl ?_
          refine zV_getI (x := (nI (S.2.2.2.1.1 + 3))) 5 dX6_feed_79 rfl fl_RX6_30 rfl (by decide) rfl (up2_same _ _ _ _) ?_
          exact zV_ireturn dX6_feed_82 rfl rfl (⟨_, _, _, by rw [show op_feed S x (nI 3) = (nI (S.2.2.2.1.1 + 3), st_t S (S.2.2.2.1.1 + 3, ft S.2.2.2.1.1 3 S.2.2.2.1.2 x)) by unfold op_feed; rw [if_pos (by decide), show tn (nI 3) = 3 from tn_nI (by decide), if_pos (show S.2.2.2.1.1 + 3 ≤ 120 by omega)]], rfl, by rw [show op_feed S x (nI 3) = (nI (S.2.2.2.1.1 + 3), st_t S (S.2.2.2.1.1 + 3, ft S.2.2.2.1.1 3 S.2.2.2.1.2 x)) by unfold op_feed; rw [if_pos (by decide), show tn (nI 3) = 3 from tn_nI (by decide), if_pos (show S.2.2.2.1.1 + 3 ≤ 120 by omega)]]; exact hC.tape hw (up2_same _ _ _ _) (by simp [up2]) (fun j hj => by unfold ft; by_cases h0 : j < S.2.2.2.1.1; (· rw [if_pos h0]; simp only [up2, show ¬ j = S.2.2.2.1.1 by omega, show ¬ j = (S.2.2.2.1.1 + 1) by omega, show ¬ j = (S.2.2.2.1.1 + 2) by omega, if_false, if_true, reduceIte, show ¬ (40 : Nat) = 0 by decide, show ¬ (82 : Nat) = 76 by decide]; exact hC.2.2.2.2.1 j h0); rw [if_neg h0]; rcases (show j = S.2.2.2.1.1 ∨ j = (S.2.2.2.1.1 + 1) ∨ j = (S.2.2.2.1.1 + 2) by omega) with rfl | rfl | rfl; (· rw [show 3 - 1 - (S.2.2.2.1.1 - S.2.2.2.1.1) = 2 by omega]; simp [up2]); (· rw [show 3 - 1 - ((S.2.2.2.1.1 + 1) - S.2.2.2.1.1) = 1 by omega]; simp [up2]); (· rw [show 3 - 1 - ((S.2.2.2.1.1 + 2) - S.2.2.2.1.1) = 0 by omega]; simp [up2])) (fun i h0 h40 => by funext k; simp [up2, h0, h40]), fun i hi => by funext k; simp [up2, show ¬ i = 0 by omega, show ¬ i = 40 by omega]⟩)
        · show zV G (eX6_feed (g_rmv 2)) (0, 0) 35 [(0, .ref 0), (1, .int x), (2, .int (nI 4))] [] (mm I J t) _
          refine zV_iload_n dX6_feed_35 rfl 2 rfl rfl ?_
          refine zV_iconst (v := (nI 1)) dX6_feed_36 rfl rfl ?_
          refine zA_isub (z := (nI 3)) dX6_feed_37 rfl  (by decide) ?_
          refine zV_istore_n (lv' := [(0, .ref 0), (1, .int x), (2, .int (nI 4)), (3, .int (nI 3))]) dX6_feed_38 rfl rfl (by decide) rfl ?_
          refine zV_iload_n dX6_feed_39 rfl 3 rfl rfl ?_
          refine zN_if_lt (tgt := 78) dX6_feed_40 rfl (by decide) rfl ?_
          refine zV_aload_n dX6_feed_43 rfl 0 rfl rfl ?_
          refine zV_getr (q' := 40) 4 dX6_feed_44 rfl fl_RX6_26 rfl (by decide) rfl rfl ?_
          refine zV_aload_n dX6_feed_47 rfl 0 rfl rfl ?_
          refine zV_getI (x := (nI S.2.2.2.1.1)) 5 dX6_feed_48 rfl fl_RX6_30 rfl (by decide) rfl hC.2.2.2.1 ?_
          refine zV_iload_n dX6_feed_51 rfl 1 rfl rfl ?_
          refine zV_bipush (v := (nI 8)) dX6_feed_52 rfl rfl ?_
          refine zV_iload_n dX6_feed_54 rfl 3 rfl rfl ?_
          refine zA_imul (z := (nI (8 * 3))) dX6_feed_55 rfl  (pk_mul _ _) ?_
          refine zA_iushr (z := (((x).toUInt32 >>> (((nI (8 * 3))).toUInt32 &&& Int32.toUInt32 31)).toInt32)) dX6_feed_56 rfl  (rfl) ?_
          refine zV_sipush (v := (nI 255)) dX6_feed_57 rfl rfl ?_
          refine zA_iand (z := (nI (fby x 3))) dX6_feed_60 rfl  (z_hu x 3 (by decide)) ?_
          refine zV_iastore S.2.2.2.1.1 dX6_feed_61 rfl rfl rfl (by omega) (by decide)  ?_
          refine zV_aload_n dX6_feed_62 rfl 0 rfl rfl ?_
          refine zV_dup dX6_feed_63 rfl rfl ?_
          refine zV_getI (x := (nI S.2.2.2.1.1)) 5 dX6_feed_64 rfl fl_RX6_30 rfl (by decide) rfl (by rw [up2_ni (by decide)]; exact hC.2.2.2.1) ?_
          refine zV_iconst (v := (nI 1)) dX6_feed_67 rfl rfl ?_
          refine zA_iadd (z := (nI (S.2.2.2.1.1 + 1))) dX6_feed_68 rfl  (nI_1 _) ?_
          refine zV_puti 5 dX6_feed_69 rfl fl_RX6_30 rfl (by decide) rfl rfl rfl ?_
          refine zV_iinc (y := (nI 2)) (lv' := [(0, .ref 0), (1, .int x), (2, .int (nI 4)), (3, .int (nI 2))]) dX6_feed_72 rfl 3 rfl (by decide) (by decide) rfl ?_
          refine zV_goto (tgt := 39) dX6_feed_75 rfl ?_
          refine zV_iload_n dX6_feed_39 rfl 3 rfl rfl ?_
          refine zN_if_lt (tgt := 78) dX6_feed_40 rfl (by decide) rfl ?_
          refine zV_aload_n dX6_feed_43 rfl 0 rfl rfl ?_
          refine zV_getr (q' := 40) 4 dX6_feed_44 rfl fl_RX6_26 rfl (by decide) rfl rfl ?_
          refine zV_aload_n dX6_feed_47 rfl 0 rfl rfl ?_
          refine zV_getI (x := (nI (S.2.2.2.1.1 + 1))) 5 dX6_feed_48 rfl fl_RX6_30 rfl (by decide) rfl (up2_same _ _ _ _) ?_
          refine zV_iload_n dX6_feed_51 rfl 1 rfl rfl ?_
          refine zV_bipush (v := (nI 8)) dX6_feed_52 rfl rfl ?_
          refine zV_iload_n dX6_feed_54 rfl 3 rfl rfl ?_
          refine zA_imul (z := (nI (8 * 2))) dX6_feed_55 rfl  (pk_mul _ _) ?_
          refine zA_iushr (z := (((x).toUInt32 >>> (((nI (8 * 2))).toUInt32 &&& Int32.toUInt32 31)).toInt32)) dX6_feed_56 rfl  (rfl) ?_
          refine zV_sipush (v := (nI 255)) dX6_feed_57 rfl rfl ?_
          refine zA_iand (z := (nI (fby x 2))) dX6_feed_60 rfl  (z_hu x 2 (by decide)) ?_
          refine zV_iastore (S.2.2.2.1.1 + 1) dX6_feed_61 rfl rfl rfl (by omega) (by decide)  ?_
          refine zV_aload_n dX6_feed_62 rfl 0 rfl rfl ?_
          refine zV_dup dX6_feed_63 rfl rfl ?_
          refine zV_getI (x := (nI (S.2.2.2.1.1 + 1))) 5 dX6_feed_64 rfl fl_RX6_30 rfl (by decide) rfl (by rw [up2_ni (by decide)]; exact (up2_same _ _ _ _)) ?_
          refine zV_iconst (v := (nI 1)) dX6_feed_67 rfl rfl ?_
          refine zA_iadd (z := (nI (S.2.2.2.1.1 + 2))) dX6_feed_68 rfl  (nI_1 _) ?_
          refine zV_puti 5 dX6_feed_69 rfl fl_RX6_30 rfl (by decide) rfl rfl rfl ?_
          refine zV_iinc (y := (nI 1)) (lv' := [(0, .ref 0), (1, .int x), (2, .int (nI 4)), (3, .int (nI 1))]) dX6_feed_72 rfl 3 rfl (by decide) (by decide) rfl ?_
          refine zV_goto (tgt := 39) dX6_feed_75 rfl ?_
          refine zV_iload_n dX6_feed_39 rfl 3 rfl rfl ?_
          refine zN_if_lt (tgt := 78) dX6_feed_40 rfl (by decide) rfl ?_
          refine zV_aload_n dX6_feed_43 rfl 0 rfl rfl ?_
          refine zV_getr (q' := 40) 4 dX6_feed_44 rfl fl_RX6_26 rfl (by decide) rfl rfl ?_
          refine zV_aload_n dX6_feed_47 rfl 0 rfl rfl ?_
          refine zV_getI (x := (nI (S.2.2.2.1.1 + 2))) 5 dX6_feed_48 rfl fl_RX6_30 rfl (by decide) rfl (up2_same _ _ _ _) ?_
          refine zV_iload_n dX6_feed_51 rfl 1 rfl rfl ?_
          refine zV_bipush (v := (nI 8)) dX6_feed_52 rfl rfl ?_
          refine zV_iload_n dX6_feed_54 rfl 3 rfl rfl ?_
          refine zA_imul (z := (nI (8 * 1))) dX6_feed_55 rfl  (pk_mul _ _) ?_
          refine zA_iushr (z := (((x).toUInt32 >>> (((nI (8 * 1))).toUInt32 &&& Int32.toUInt32 31)).toInt32)) dX6_feed_56 rfl  (rfl) ?_
          refine zV_sipush (v := (nI 255)) dX6_feed_57 rfl rfl ?_
          refine zA_iand (z := (nI (fby x 1))) dX6_feed_60 rfl  (z_hu x 1 (by decide)) ?_
          refine zV_iastore (S.2.2.2.1.1 + 2) dX6_feed_61 rfl rfl rfl (by omega) (by decide)  ?_
          refine zV_aload_n dX6_feed_62 rfl 0 rfl rfl ?_
          refine zV_dup dX6_feed_63 rfl rfl ?_
          refine zV_getI (x := (nI (S.2.2.2.1.1 + 2))) 5 dX6_feed_64 rfl fl_RX6_30 rfl (by decide) rfl (by rw [up2_ni (by decide)]; exact (up2_same _ _ _ _)) ?_
          refine zV_iconst (v := (nI 1)) dX6_feed_67 rfl rfl ?_
          refine zA_iadd (z := (nI (S.2.2.2.1.1 + 3))) dX6_feed_68 rfl  (nI_1 _) ?_
          refine zV_puti 5 dX6_feed_69 rfl fl_RX6_30 rfl (by decide) rfl rfl rfl ?_
          refine zV_iinc (y := (nI 0)) (lv' := [(0, .ref 0), (1, .int x), (2, .int (nI 4)), (3, .int (nI 0))]) dX6_feed_72 rfl 3 rfl (by decide) (by decide) rfl ?_
          refine zV_goto (tgt := 39) dX6_feed_75 rfl ?_
          refine zV_iload_n dX6_feed_39 rfl 3 rfl rfl ?_
          refine zN_if_lt (tgt := 78) dX6_feed_40 rfl (by decide) rfl ?_
          refine zV_aload_n dX6_feed_43 rfl 0 rfl rfl ?_
          refine zV_getr (q' := 40) 4 dX6_feed_44 rfl fl_RX6_26 rfl (by decide) rfl rfl ?_
          refine zV_aload_n dX6_feed_47 rfl 0 rfl rfl ?_
          refine zV_getI (x := (nI (S.2.2.2.1.1 + 3))) 5 dX6_feed_48 rfl fl_RX6_30 rfl (by decide) rfl (up2_same _ _ _ _) ?_
          refine zV_iload_n dX6_feed_51 rfl 1 rfl rfl ?_
          refine zV_bipush (v := (nI 8)) dX6_feed_52 rfl rfl ?_
          refine zV_iload_n dX6_feed_54 rfl 3 rfl rfl ?_
          refine zA_imul (z := (nI (8 * 0))) dX6_feed_55 rfl  (pk_mul _ _) ?_
          refine zA_iushr (z := (((x).toUInt32 >>> (((nI (8 * 0))).toUInt32 &&& Int32.toUInt32 31)).toInt32)) dX6_feed_56 rfl  (rfl) ?_
          refine zV_sipush (v := (nI 255)) dX6_feed_57 rfl rfl ?_
          refine zA_iand (z := (nI (fby x 0))) dX6_feed_60 rfl  (z_hu x 0 (by decide)) ?_
          refine zV_iastore (S.2.2.2.1.1 + 3) dX6_feed_61 rfl rfl rfl (by omega) (by decide)  ?_
          refine zV_aload_n dX6_feed_62 rfl 0 rfl rfl ?_
          refine zV_dup dX6_feed_63 rfl rfl ?_
          refine zV_getI (x := (nI (S.2.2.2.1.1 + 3))) 5 dX6_feed_64 rfl fl_RX6_30 rfl (by decide) rfl (by rw [up2_ni (by decide)]; exact (up2_same _ _ _ _)) ?_
          refine zV_iconst (v := (nI 1)) dX6_feed_67 rfl rfl ?_
          refine zA_iadd (z := (nI (S.2.2.2.1.1 + 4))) dX6_feed_68 rfl  (nI_1 _) ?_
          refine zV_puti 5 dX6_feed_69 rfl fl_RX6_30 rfl (by decide) rfl rfl rfl ?_
          refine zV_iinc (y := (-1)) (lv' := [(0, .ref 0), (1, .int x), (2, .int (nI 4)), (3, .int (-1))]) dX6_feed_72 rfl 3 rfl (by decide) (by decide) rfl ?_
          refine zV_goto (tgt := 39) dX6_feed_75 rfl ?_
          refine zV_iload_n dX6_feed_39 rfl 3 rfl rfl ?_
          refine zV_if_lt (tgt := 78) dX6_feed_40 rfl rfl  (fun _ => ?_) (fun z => absurd z (by decide))
          refine zV_aload_n dX6_feed_78 rfl 0 rfl rfl ?_
          refine zV_getI (x := (nI (S.2.2.2.1.1 + 4))) 5 dX6_feed_79 rfl fl_RX6_30 rfl (by decide) rfl (up2_same _ _ _ _) ?_
          exact zV_ireturn dX6_feed_82 rfl rfl (⟨_, _, _, by rw [show op_feed S x (nI 4) = (nI (S.2.2.2.1.1 + 4), st_t S (S.2.2.2.1.1 + 4, ft S.2.2.2.1.1 4 S.2.2.2.1.2 x)) by unfold op_feed; rw [if_pos (by decide), show tn (nI 4) = 4 from tn_nI (by decide), if_pos (show S.2.2.2.1.1 + 4 ≤ 120 by omega)]], rfl, by rw [show op_feed S x (nI 4) = (nI (S.2.2.2.1.1 + 4), st_t S (S.2.2.2.1.1 + 4, ft S.2.2.2.1.1 4 S.2.2.2.1.2 x)) by unfold op_feed; rw [if_pos (by decide), show tn (nI 4) = 4 from tn_nI (by decide), if_pos (show S.2.2.2.1.1 + 4 ≤ 120 by omega)]]; exact hC.tape hw (up2_same _ _ _ _) (by simp [up2]) (fun j hj => by unfold ft; by_cases h0 : j < S.2.2.2.1.1; (· rw [if_pos h0]; simp only [up2, show ¬ j = S.2.2.2.1.1 by omega, show ¬ j = (S.2.2.2.1.1 + 1) by omega, show ¬ j = (S.2.2.2.1.1 + 2) by omega, show ¬ j = (S.2.2.2.1.1 + 3) by omega, if_false, if_true, reduceIte, show ¬ (40 : Nat) = 0 by decide, show ¬ (82 : Nat) = 76 by decide]; exact hC.2.2.2.2.1 j h0); rw [if_neg h0]; rcases (show j = S.2.2.2.1.1 ∨ j = (S.2.2.2.1.1 + 1) ∨ j = (S.2.2.2.1.1 + 2) ∨ j = (S.2.2.2.1.1 + 3) by omega) with rfl | rfl | rfl | rfl; (· rw [show 4 - 1 - (S.2.2.2.1.1 - S.2.2.2.1.1) = 3 by omega]; simp [up2]); (· rw [show 4 - 1 - ((S.2.2.2.1.1 + 1) - S.2.2.2.1.1) = 2 by omega]; simp [up2]); (· rw [show 4 - 1 - ((S.2.2.2.1.1 + 2) - S.2.2.2.1.1) = 1 by omega]; simp [up2]); (· rw [show 4 - 1 - ((S.2.2.2.1.1 + 3) - S.2.2.2.1.1) = 0 by omega]; simp [up2])) (fun i h0 h40 => by funext k; simp [up2, h0, h40]), fun i hi => by funext k; simp [up2, show ¬ i = 0 by omega, show ¬ i = 40 by omega]⟩)
      · refine zV_aload_n dX6_feed_28 rfl 0 rfl rfl ?_
        refine zV_ldc (v := (-1000002)) dX6_feed_29 rfl tw269 ?_
        refine zV_callV (E' := eX6_tell (g_rmv 1)) (av := [.int (-1000002)]) (st := []) (b := 0) dX6_feed_31 rfl (k_RX6_70 _) rfl ⟨by decide, by decide⟩ ⟨by decide, by decide⟩ (Or.inl rfl) rfl (Nat.le_of_ble_eq_true rfl) rfl rfl rfl (c_tell (w := 1) (by decide) (by decide)) (fun r31 M31 z => ?_)
        obtain ⟨rfl, rfl⟩ := z
        show zV G (eX6_feed (g_rmv 2)) (0, 0) 34 [(0, .ref 0), (1, .int x), (2, .int (nI n))] [.int (fdg 1)] (mm (up2 I 67 1 (I 67 1 + nI 1)) J t) _
        exact zV_ireturn dX6_feed_34 rfl rfl (PC.tell hC hw (by unfold op_feed; rw [if_pos (show nI 1 ≤ nI n ∧ nI n ≤ nI 4 from ⟨Int32.not_lt.mp h2, h7⟩), tn_nI (show n < 2 ^ 31 by omega), if_neg (show ¬ S.2.2.2.1.1 + n ≤ 120 by omega)]) (fun _ _ => rfl))
    · refine zV_aload_n dX6_feed_10 rfl 0 rfl rfl ?_
      refine zV_ldc (v := (-1000001)) dX6_feed_11 rfl tw264 ?_
      refine zV_callV (E' := eX6_tell (g_rmv 1)) (av := [.int (-1000001)]) (st := []) (b := 0) dX6_feed_13 rfl (k_RX6_70 _) rfl ⟨by decide, by decide⟩ ⟨by decide, by decide⟩ (Or.inl rfl) rfl (Nat.le_of_ble_eq_true rfl) rfl rfl rfl (c_tell (w := 0) (by decide) (by decide)) (fun r13 M13 z => ?_)
      obtain ⟨rfl, rfl⟩ := z
      show zV G (eX6_feed (g_rmv 2)) (0, 0) 16 [(0, .ref 0), (1, .int x), (2, .int y)] [.int (fdg 0)] (mm (up2 I 67 0 (I 67 0 + nI 1)) J t) _
      exact zV_ireturn dX6_feed_16 rfl rfl (PC.tell hC hw (by unfold op_feed; rw [if_neg (show ¬ (nI 1 ≤ y ∧ y ≤ nI 4) from fun q => h7 q.2)]) (fun _ _ => rfl))

set_option maxRecDepth 100000 in
theorem q_feed {G : mG} {I : Nat → Nat → Int32} {J : Nat → Nat → Int64} {t : Nat} {B : Nat} {S : aS} (hM : InvM I S) (hw : wfS B S) {x y : Int32} : zC G yX7_feed (eX7_feed (g_rmv 1)) [.ref 76, .int x, .int y] (mm I J t) (fun r M => PM I (op_feed S x y) r M) := by
  refine zC_of (by decide +kernel) rfl (by decide) (Nat.le_of_ble_eq_true rfl) ?_
  have n10 := hw.1.1
  have t120 := hw.2.2.2.1
  show zV G (eX7_feed (g_rmv 1)) (0, 0) 0 [(0, .ref 76), (1, .int x), (2, .int y)] [] (mm I J t) _
  refine zV_iload_n dX7_feed_0 rfl 2 rfl rfl ?_
  refine zV_iconst (v := (nI 1)) dX7_feed_1 rfl rfl ?_
  refine zV_iconst (v := (nI 4)) dX7_feed_2 rfl rfl ?_
  refine zV_callS (E' := eX7_within (g_rmv 0)) (av := [.int y, .int (nI 1), .int (nI 4)]) (st := []) dX7_feed_3 rfl (k_RX7_72 _) rfl ⟨by decide, by decide⟩ ⟨by decide, by decide⟩ (Or.inl rfl) rfl (Nat.le_of_ble_eq_true rfl) (m_within (x := y) (y := (nI 1)) (z := (nI 4))) (fun r3 M3 z => ?_)
  obtain ⟨rfl, rfl⟩ := z
  show zV G (eX7_feed (g_rmv 1)) (0, 0) 6 [(0, .ref 76), (1, .int x), (2, .int y)] [.int (b2 ((nI 1) ≤ y ∧ y ≤ (nI 4)))] (mm I J t) _
  refine zB_if_ne (tgt := 16) dX7_feed_6 rfl rfl  (fun h6 => ?_) (fun h6 => ?_)
  · obtain ⟨n, hn1, hn2, rfl⟩ := z_rng (by decide) (by decide) h6
    refine zV_aload_n dX7_feed_16 rfl 0 rfl rfl ?_
    refine zV_getI (x := (nI S.2.2.2.1.1)) 10 dX7_feed_17 rfl fl_RX7_227 rfl (by decide) rfl hM.2.2.2.1 ?_
    refine zV_iload_n dX7_feed_20 rfl 2 rfl rfl ?_
    refine zA_iadd (z := (nI (S.2.2.2.1.1 + n))) dX7_feed_21 rfl  (nI_add _ _) ?_
    refine zV_bipush (v := (nI 120)) dX7_feed_22 rfl rfl ?_
    refine zN_icmp_le (tgt := 34) dX7_feed_24 rfl rfl (by omega) (by omega) (fun h24 => ?_) (fun h24 => ?_)
    · rcases (show n = 1 ∨ n = 2 ∨ n = 3 ∨ n = 4 by omega) with rfl | rfl | rfl | rfl
      · show zV G (eX7_feed (g_rmv 1)) (0, 0) 34 [(0, .ref 76), (1, .int x), (2, .int (nI 1))] [] (mm I J t) _
        refine zV_iload_n dX7_feed_34 rfl 2 rfl rfl ?_
        refine zV_iconst (v := (nI 1)) dX7_feed_35 rfl rfl ?_
        refine zA_isub (z := (nI 0)) dX7_feed_36 rfl  (by decide) ?_
        refine zV_istore_n (lv' := [(0, .ref 76), (1, .int x), (2, .int (nI 1)), (3, .int (nI 0))]) dX7_feed_37 rfl rfl (by decide) rfl ?_
        refine zV_iload_n dX7_feed_38 rfl 3 rfl rfl ?_
        refine zN_if_lt (tgt := 77) dX7_feed_39 rfl (by decide) rfl ?_
        refine zV_aload_n dX7_feed_42 rfl 0 rfl rfl ?_
        refine zV_getr (q' := 82) 9 dX7_feed_43 rfl fl_RX7_26 rfl (by decide) rfl rfl ?_
        refine zV_aload_n dX7_feed_46 rfl 0 rfl rfl ?_
        refine zV_getI (x := (nI S.2.2.2.1.1)) 10 dX7_feed_47 rfl fl_RX7_227 rfl (by decide) rfl hM.2.2.2.1 ?_
        refine zV_iload_n dX7_feed_50 rfl 1 rfl rfl ?_
        refine zV_bipush (v := (nI 8)) dX7_feed_51 rfl rfl ?_
        refine zV_iload_n dX7_feed_53 rfl 3 rfl rfl ?_
        refine zA_imul (z := (nI (8 * 0))) dX7_feed_54 rfl  (pk_mul _ _) ?_
        refine zA_ishr (z := (x >>> ((nI (8 * 0)) &&& 31))) dX7_feed_55 rfl  (rfl) ?_
        refine zV_sipush (v := (nI 255)) dX7_feed_56 rfl rfl ?_
        refine zA_iand (z := (nI (fby x 0))) dX7_feed_59 rfl  (z_hs x 0 (by decide)) ?_
        refine zV_iastore S.2.2.2.1.1 dX7_feed_60 rfl rfl rfl (by omega) (by decide)  ?_
        refine zV_aload_n dX7_feed_61 rfl 0 rfl rfl ?_
        refine zV_dup dX7_feed_62 rfl rfl ?_
        refine zV_getI (x := (nI S.2.2.2.1.1)) 10 dX7_feed_63 rfl fl_RX7_227 rfl (by decide) rfl (by rw [up2_ni (by decide)]; exact hM.2.2.2.1) ?_
        refine zV_iconst (v := (nI 1)) dX7_feed_66 rfl rfl ?_
        refine zA_iadd (z := (nI (S.2.2.2.1.1 + 1))) dX7_feed_67 rfl  (nI_1 _) ?_
        refine zV_puti 10 dX7_feed_68 rfl fl_RX7_227 rfl (by decide) rfl rfl rfl ?_
        refine zV_iinc (y := (-1)) (lv' := [(0, .ref 76), (1, .int x), (2, .int (nI 1)), (3, .int (-1))]) dX7_feed_71 rfl 3 rfl (by decide) (by decide) rfl ?_
        refine zV_goto (tgt := 38) dX7_feed_74 rfl ?_
        refine zV_iload_n dX7_feed_38 rfl 3 rfl rfl ?_
        refine zV_if_lt (tgt := 77) dX7_feed_39 rfl rfl  (fun _ => ?_) (fun z => absurd z (by decide))
        refine zV_aload_n dX7_feed_77 rfl 0 rfl rfl ?_
        refine zV_getI (x := (nI (S.2.2.2.1.1 + 1))) 10 dX7_feed_78 rfl fl_RX7_227 rfl (by decide) rfl (up2_same _ _ _ _) ?_
        exact zV_ireturn dX7_feed_81 rfl rfl (⟨_, _, _, by rw [show op_feed S x (nI 1) = (nI (S.2.2.2.1.1 + 1), st_t S (S.2.2.2.1.1 + 1, ft S.2.2.2.1.1 1 S.2.2.2.1.2 x)) by unfold op_feed; rw [if_pos (by decide), show tn (nI 1) = 1 from tn_nI (by decide), if_pos (show S.2.2.2.1.1 + 1 ≤ 120 by omega)]], rfl, by rw [show op_feed S x (nI 1) = (nI (S.2.2.2.1.1 + 1), st_t S (S.2.2.2.1.1 + 1, ft S.2.2.2.1.1 1 S.2.2.2.1.2 x)) by unfold op_feed; rw [if_pos (by decide), show tn (nI 1) = 1 from tn_nI (by decide), if_pos (show S.2.2.2.1.1 + 1 ≤ 120 by omega)]]; exact hM.tape (up2_same _ _ _ _) (by simp [up2]) (fun j hj => by unfold ft; by_cases h0 : j < S.2.2.2.1.1; (· rw [if_pos h0]; simp only [up2, show ¬ j = S.2.2.2.1.1 by omega, if_false, if_true, reduceIte, show ¬ (40 : Nat) = 0 by decide, show ¬ (82 : Nat) = 76 by decide]; exact hM.2.2.2.2.1 j h0); rw [if_neg h0]; rcases (show j = S.2.2.2.1.1 by omega) with rfl; (· rw [show 1 - 1 - (S.2.2.2.1.1 - S.2.2.2.1.1) = 0 by omega]; simp [up2])) (fun i h0 h40 => by funext k; simp [up2, h0, h40]), fun i hi => by funext k; simp [up2, show ¬ i = 76 by omega, show ¬ i = 82 by omega]⟩)
      · show zV G (eX7_feed (g_rmv 1)) (0, 0) 34 [(0, .ref 76), (1, .int x), (2, .int (nI 2))] [] (mm I J t) _
        refine zV_iload_n dX7_feed_34 rfl 2 rfl rfl ?_
        refine zV_iconst (v := (nI 1)) dX7_feed_35 rfl rfl ?_
        refine zA_isub (z := (nI 1)) dX7_feed_36 rfl  (by decide) ?_
        refine zV_istore_n (lv' := [(0, .ref 76), (1, .int x), (2, .int (nI 2)), (3, .int (nI 1))]) dX7_feed_37 rfl rfl (by decide) rfl ?_
        refine zV_iload_n dX7_feed_38 rfl 3 rfl rfl ?_
        refine zN_if_lt (tgt := 77) dX7_feed_39 rfl (by decide) rfl ?_
        refine zV_aload_n dX7_feed_42 rfl 0 rfl rfl ?_
        refine zV_getr (q' := 82) 9 dX7_feed_43 rfl fl_RX7_26 rfl (by decide) rfl rfl ?_
        refine zV_aload_n dX7_feed_46 rfl 0 rfl rfl ?_
        refine zV_getI (x := (nI S.2.2.2.1.1)) 10 dX7_feed_47 rfl fl_RX7_227 rfl (by decide) rfl hM.2.2.2.1 ?_
        refine zV_iload_n dX7_feed_50 rfl 1 rfl rfl ?_
        refine zV_bipush (v := (nI 8)) dX7_feed_51 rfl rfl ?_
        refine zV_iload_n dX7_feed_53 rfl 3 rfl rfl ?_
        refine zA_imul (z := (nI (8 * 1))) dX7_feed_54 rfl  (pk_mul _ _) ?_
        refine zA_ishr (z := (x >>> ((nI (8 * 1)) &&& 31))) dX7_feed_55 rfl  (rfl) ?_
        refine zV_sipush (v := (nI 255)) dX7_feed_56 rfl rfl ?_
        refine zA_iand (z := (nI (fby x 1))) dX7_feed_59 rfl  (z_hs x 1 (by decide)) ?_
        refine zV_iastore S.2.2.2.1.1 dX7_feed_60 rfl rfl rfl (by omega) (by decide)  ?_
        refine zV_aload_n dX7_feed_61 rfl 0 rfl rfl ?_
        refine zV_dup dX7_feed_62 rfl rfl ?_
        refine zV_getI (x := (nI S.2.2.2.1.1)) 10 dX7_feed_63 rfl fl_RX7_227 rfl (by decide) rfl (by rw [up2_ni (by decide)]; exact hM.2.2.2.1) ?_
        refine zV_iconst (v := (nI 1)) dX7_feed_66 rfl rfl ?_
        refine zA_iadd (z := (nI (S.2.2.2.1.1 + 1))) dX7_feed_67 rfl  (nI_1 _) ?_
        refine zV_puti 10 dX7_feed_68 rfl fl_RX7_227 rfl (by decide) rfl rfl rfl ?_
        refine zV_iinc (y := (nI 0)) (lv' := [(0, .ref 76), (1, .int x), (2, .int (nI 2)), (3, .int (nI 0))]) dX7_feed_71 rfl 3 rfl (by decide) (by decide) rfl ?_
        refine zV_goto (tgt := 38) dX7_feed_74 rfl ?_
        refine zV_iload_n dX7_feed_38 rfl 3 rfl rfl ?_
        refine zN_if_lt (tgt := 77) dX7_feed_39 rfl (by decide) rfl ?_
        refine zV_aload_n dX7_feed_42 rfl 0 rfl rfl ?_
        refine zV_getr (q' := 82) 9 dX7_feed_43 rfl fl_RX7_26 rfl (by decide) rfl rfl ?_
        refine zV_aload_n dX7_feed_46 rfl 0 rfl rfl ?_
        refine zV_getI (x := (nI (S.2.2.2.1.1 + 1))) 10 dX7_feed_47 rfl fl_RX7_227 rfl (by decide) rfl (up2_same _ _ _ _) ?_
        refine zV_iload_n dX7_feed_50 rfl 1 rfl rfl ?_
        refine zV_bipush (v := (nI 8)) dX7_feed_51 rfl rfl ?_
        refine zV_iload_n dX7_feed_53 rfl 3 rfl rfl ?_
        refine zA_imul (z := (nI (8 * 0))) dX7_feed_54 rfl  (pk_mul _ _) ?_
        refine zA_ishr (z := (x >>> ((nI (8 * 0)) &&& 31))) dX7_feed_55 rfl  (rfl) ?_
        refine zV_sipush (v := (nI 255)) dX7_feed_56 rfl rfl ?_
        refine zA_iand (z := (nI (fby x 0))) dX7_feed_59 rfl  (z_hs x 0 (by decide)) ?_
        refine zV_iastore (S.2.2.2.1.1 + 1) dX7_feed_60 rfl rfl rfl (by omega) (by decide)  ?_
        refine zV_aload_n dX7_feed_61 rfl 0 rfl rfl ?_
        refine zV_dup dX7_feed_62 rfl rfl ?_
        refine zV_getI (x := (nI (S.2.2.2.1.1 + 1))) 10 dX7_feed_63 rfl fl_RX7_227 rfl (by decide) rfl (by rw [up2_ni (by decide)]; exact (up2_same _ _ _ _)) ?_
        refine zV_iconst (v := (nI 1)) dX7_feed_66 rfl rfl ?_
        refine zA_iadd (z := (nI (S.2.2.2.1.1 + 2))) dX7_feed_67 rfl  (nI_1 _) ?_
        refine zV_puti 10 dX7_feed_68 rfl fl_RX7_227 rfl (by decide) rfl rfl rfl ?_
        refine zV_iinc (y := (-1)) (lv' := [(0, .ref 76), (1, .int x), (2, .int (nI 2)), (3, .int (-1))]) dX7_feed_71 rfl 3 rfl (by decide) (by decide) rfl ?_
        refine zV_goto (tgt := 38) dX7_feed_74 rfl ?_
        refine zV_iload_n dX7_feed_38 rfl 3 rfl rfl ?_
        refine zV_if_lt (tgt := 77) dX7_feed_39 rfl rfl  (fun _ => ?_) (fun z => absurd z (by decide))
        refine zV_aload_n dX7_feed_77 rfl 0 rfl rfl ?_
        refine zV_getI (x := (nI (S.2.2.2.1.1 + 2))) 10 dX7_feed_78 rfl fl_RX7_227 rfl (by decide) rfl (up2_same _ _ _ _) ?_
        exact zV_ireturn dX7_feed_81 rfl rfl (⟨_, _, _, by rw [show op_feed S x (nI 2) = (nI (S.2.2.2.1.1 + 2), st_t S (S.2.2.2.1.1 + 2, ft S.2.2.2.1.1 2 S.2.2.2.1.2 x)) by unfold op_feed; rw [if_pos (by decide), show tn (nI 2) = 2 from tn_nI (by decide), if_pos (show S.2.2.2.1.1 + 2 ≤ 120 by omega)]], rfl, by rw [show op_feed S x (nI 2) = (nI (S.2.2.2.1.1 + 2), st_t S (S.2.2.2.1.1 + 2, ft S.2.2.2.1.1 2 S.2.2.2.1.2 x)) by unfold op_feed; rw [if_pos (by decide), show tn (nI 2) = 2 from tn_nI (by decide), if_pos (show S.2.2.2.1.1 + 2 ≤ 120 by omega)]]; exact hM.tape (up2_same _ _ _ _) (by simp [up2]) (fun j hj => by unfold ft; by_cases h0 : j < S.2.2.2.1.1; (· rw [if_pos h0]; simp only [up2, show ¬ j = S.2.2.2.1.1 by omega, show ¬ j = (S.2.2.2.1.1 + 1) by omega, if_false, if_true, reduceIte, show ¬ (40 : Nat) = 0 by decide, show ¬ (82 : Nat) = 76 by decide]; exact hM.2.2.2.2.1 j h0); rw [if_neg h0]; rcases (show j = S.2.2.2.1.1 ∨ j = (S.2.2.2.1.1 + 1) by omega) with rfl | rfl; (· rw [show 2 - 1 - (S.2.2.2.1.1 - S.2.2.2.1.1) = 1 by omega]; simp [up2]); (· rw [show 2 - 1 - ((S.2.2.2.1.1 + 1) - S.2.2.2.1.1) = 0 by omega]; simp [up2])) (fun i h0 h40 => by funext k; simp [up2, h0, h40]), fun i hi => by funext k; simp [up2, show ¬ i = 76 by omega, show ¬ i = 82 by omega]⟩)
      · show zV G (eX7_feed (g_rmv 1)) (0, 0) 34 [(0, .ref 76), (1, .int x), (2, .int (nI 3))] [] (mm I J t) _
        refine zV_iload_n dX7_feed_34 rfl 2 rfl rfl ?_
        refine zV_iconst (v := (nI 1)) dX7_feed_35 rfl rfl ?_
        refine zA_isub (z := (nI 2)) dX7_feed_36 rfl  (by decide) ?_
        refine zV_istore_n (lv' := [(0, .ref 76), (1, .int x), (2, .int (nI 3)), (3, .int (nI 2))]) dX7_feed_37 rfl rfl (by decide) rfl ?_
        refine zV_iload_n dX7_feed_38 rfl 3 rfl rfl ?_
        refine zN_if_lt (tgt := 77) dX7_feed_39 rfl (by decide) rfl ?_
        refine zV_aload_n dX7_feed_42 rfl 0 rfl rfl ?_
        refine zV_getr (q' := 82) 9 dX7_feed_43 rfl fl_RX7_26 rfl (by decide) rfl rfl ?_
        refine zV_aload_n dX7_feed_46 rfl 0 rfl rfl ?_
        refine zV_getI (x := (nI S.2.2.2.1.1)) 10 dX7_feed_47 rfl fl_RX7_227 rfl (by decide) rfl hM.2.2.2.1 ?_
        refine zV_iload_n dX7_feed_50 rfl 1 rfl rfl ?_
        refine zV_bipush (v := (nI 8)) dX7_feed_51 rfl rfl ?_
        refine zV_iload_n dX7_feed_53 rfl 3 rfl rfl ?_
        refine zA_imul (z := (nI (8 * 2))) dX7_feed_54 rfl  (pk_mul _ _) ?_
        refine zA_ishr (z := (x >>> ((nI (8 * 2)) &&& 31))) dX7_feed_55 rfl  (rfl) ?_
        refine zV_sipush (v := (nI 255)) dX7_feed_56 rfl rfl ?_
        refine zA_iand (z := (nI (fby x 2))) dX7_feed_59 rfl  (z_hs x 2 (by decide)) ?_
        refine zV_iastore S.2.2.2.1.1 dX7_feed_60 rfl rfl rfl (by omega) (by decide)  ?_
        refine zV_aload_n dX7_feed_61 rfl 0 rfl rfl ?_
        refine zV_dup dX7_feed_62 rfl rfl ?_
        refine zV_getI (x := (nI S.2.2.2.1.1)) 10 dX7_feed_63 rfl fl_RX7_227 rfl (by decide) rfl (by rw [up2_ni (by decide)]; exact hM.2.2.2.1) ?_
        refine zV_iconst (v := (nI 1)) dX7_feed_66 rfl rfl ?_
        refine zA_iadd (z := (nI (S.2.2.2.1.1 + 1))) dX7_feed_67 rfl  (nI_1 _) ?_
        refine zV_puti 10 dX7_feed_68 rfl fl_RX7_227 rfl (by decide) rfl rfl rfl ?_
        refine zV_iinc (y := (nI 1)) (lv' := [(0, .ref 76), (1, .int x), (2, .int (nI 3)), (3, .int (nI 1))]) dX7_feed_71 rfl 3 rfl (by decide) (by decide) rfl ?_
        refine zV_goto (tgt := 38) dX7_feed_74 rfl ?_
        refine zV_iload_n dX7_feed_38 rfl 3 rfl rfl ?_
        refine zN_if_lt (tgt := 77) dX7_feed_39 rfl (by decide) rfl ?_
        refine zV_aload_n dX7_feed_42 rfl 0 rfl rfl ?_
        refine zV_getr (q' := 82) 9 dX7_feed_43 rfl fl_RX7_26 rfl (by decide) rfl rfl ?_
        refine zV_aload_n dX7_feed_46 rfl 0 rfl rfl ?_
        refine zV_getI (x := (nI (S.2.2.2.1.1 + 1))) 10 dX7_feed_47 rfl fl_RX7_227 rfl (by decide) rfl (up2_same _ _ _ _) ?_
        refine zV_iload_n dX7_feed_50 rfl 1 rfl rfl ?_
        refine zV_bipush (v := (nI 8)) dX7_feed_51 rfl rfl ?_
        refine zV_iload_n dX7_feed_53 rfl 3 rfl rfl ?_
        refine zA_imul (z := (nI (8 * 1))) dX7_feed_54 rfl  (pk_mul _ _) ?_
        refine zA_ishr (z := (x >>> ((nI (8 * 1)) &&& 31))) dX7_feed_55 rfl  (rfl) ?_
        refine zV_sipush (v := (nI 255)) dX7_feed_56 rfl rfl ?_
        refine zA_iand (z := (nI (fby x 1))) dX7_feed_59 rfl  (z_hs x 1 (by decide)) ?_
        refine zV_iastore (S.2.2.2.1.1 + 1) dX7_feed_60 rfl rfl rfl (by omega) (by decide)  ?_
        refine zV_aload_n dX7_feed_61 rfl 0 rfl rfl ?_
        refine zV_dup dX7_feed_62 rfl rfl ?_
        refine zV_getI (x := (nI (S.2.2.2.1.1 + 1))) 10 dX7_feed_63 rfl fl_RX7_227 rfl (by decide) rfl (by rw [up2_ni (by decide)]; exact (up2_same _ _ _ _)) ?_
        refine zV_iconst (v := (nI 1)) dX7_feed_66 rfl rfl ?_
        refine zA_iadd (z := (nI (S.2.2.2.1.1 + 2))) dX7_feed_67 rfl  (nI_1 _) ?_
        refine zV_puti 10 dX7_feed_68 rfl fl_RX7_227 rfl (by decide) rfl rfl rfl ?_
        refine zV_iinc (y := (nI 0)) (lv' := [(0, .ref 76), (1, .int x), (2, .int (nI 3)), (3, .int (nI 0))]) dX7_feed_71 rfl 3 rfl (by decide) (by decide) rfl ?_
        refine zV_goto (tgt := 38) dX7_feed_74 rfl ?_
        refine zV_iload_n dX7_feed_38 rfl 3 rfl rfl ?_
        refine zN_if_lt (tgt := 77) dX7_feed_39 rfl (by decide) rfl ?_
        refine zV_aload_n dX7_feed_42 rfl 0 rfl rfl ?_
        refine zV_getr (q' := 82) 9 dX7_feed_43 rfl fl_RX7_26 rfl (by decide) rfl rfl ?_
        refine zV_aload_n dX7_feed_46 rfl 0 rfl rfl ?_
        refine zV_getI (x := (nI (S.2.2.2.1.1 + 2))) 10 dX7_feed_47 rfl fl_RX7_227 rfl (by decide) rfl (up2_same _ _ _ _) ?_
        refine zV_iload_n dX7_feed_50 rfl 1 rfl rfl ?_
        refine zV_bipush (v := (nI 8)) dX7_feed_51 rfl rfl ?_
        refine zV_iload_n dX7_feed_53 rfl 3 rfl rfl ?_
        refine zA_imul (z := (nI (8 * 0))) dX7_feed_54 rfl  (pk_mul _ _) ?_
        refine zA_ishr (z := (x >>> ((nI (8 * 0)) &&& 31))) dX7_feed_55 rfl  (rfl) ?_
        refine zV_sipush (v := (nI 255)) dX7_feed_56 rfl rfl ?_
        refine zA_iand (z := (nI (fby x 0))) dX7_feed_59 rfl  (z_hs x 0 (by decide)) ?_
        refine zV_iastore (S.2.2.2.1.1 + 2) dX7_feed_60 rfl rfl rfl (by omega) (by decide)  ?_
        refine zV_aload_n dX7_feed_61 rfl 0 rfl rfl ?_
        refine zV_dup dX7_feed_62 rfl rfl ?_
        refine zV_getI (x := (nI (S.2.2.2.1.1 + 2))) 10 dX7_feed_63 rfl fl_RX7_227 rfl (by decide) rfl (by rw [up2_ni (by decide)]; exact (up2_same _ _ _ _)) ?_
        refine zV_iconst (v := (nI 1)) dX7_feed_66 rfl rfl ?_
        refine zA_iadd (z := (nI (S.2.2.2.1.1 + 3))) dX7_feed_67 rfl  (nI_1 _) ?_
        refine zV_puti 10 dX7_feed_68 rfl fl_RX7_227 rfl (by decide) rfl rfl rfl ?_
        refine zV_iinc (y := (-1)) (lv' := [(0, .ref 76), (1, .int x), (2, .int (nI 3)), (3, .int (-1))]) dX7_feed_71 rfl 3 rfl (by decide) (by decide) rfl ?_
        refine zV_goto (tgt := 38) dX7_feed_74 rfl ?_
        refine zV_iload_n dX7_feed_38 rfl 3 rfl rfl ?_
        refine zV_if_lt (tgt := 77) dX7_feed_39 rfl rfl  (fun _ => ?_) (fun z => absurd z (by decide))
        refine zV_aload_n dX7_feed_77 rfl 0 rfl rfl ?_
        refine zV_getI (x := (nI (S.2.2.2.1.1 + 3))) 10 dX7_feed_78 rfl fl_RX7_227 rfl (by decide) rfl (up2_same _ _ _ _) ?_
        exact zV_ireturn dX7_feed_81 rfl rfl (⟨_, _, _, by rw [show op_feed S x (nI 3) = (nI (S.2.2.2.1.1 + 3), st_t S (S.2.2.2.1.1 + 3, ft S.2.2.2.1.1 3 S.2.2.2.1.2 x)) by unfold op_feed; rw [if_pos (by decide), show tn (nI 3) = 3 from tn_nI (by decide), if_pos (show S.2.2.2.1.1 + 3 ≤ 120 by omega)]], rfl, by rw [show op_feed S x (nI 3) = (nI (S.2.2.2.1.1 + 3), st_t S (S.2.2.2.1.1 + 3, ft S.2.2.2.1.1 3 S.2.2.2.1.2 x)) by unfold op_feed; rw [if_pos (by decide), show tn (nI 3) = 3 from tn_nI (by decide), if_pos (show S.2.2.2.1.1 + 3 ≤ 120 by omega)]]; exact hM.tape (up2_same _ _ _ _) (by simp [up2]) (fun j hj => by unfold ft; by_cases h0 : j < S.2.2.2.1.1; (· rw [if_pos h0]; simp only [up2, show ¬ j = S.2.2.2.1.1 by omega, show ¬ j = (S.2.2.2.1.1 + 1) by omega, show ¬ j = (S.2.2.2.1.1 + 2) by omega, if_false, if_true, reduceIte, show ¬ (40 : Nat) = 0 by decide, show ¬ (82 : Nat) = 76 by decide]; exact hM.2.2.2.2.1 j h0); rw [if_neg h0]; rcases (show j = S.2.2.2.1.1 ∨ j = (S.2.2.2.1.1 + 1) ∨ j = (S.2.2.2.1.1 + 2) by omega) with rfl | rfl | rfl; (· rw [show 3 - 1 - (S.2.2.2.1.1 - S.2.2.2.1.1) = 2 by omega]; simp [up2]); (· rw [show 3 - 1 - ((S.2.2.2.1.1 + 1) - S.2.2.2.1.1) = 1 by omega]; simp [up2]); (· rw [show 3 - 1 - ((S.2.2.2.1.1 + 2) - S.2.2.2.1.1) = 0 by omega]; simp [up2])) (fun i h0 h40 => by funext k; simp [up2, h0, h40]), fun i hi => by funext k; simp [up2, show ¬ i = 76 by omega, show ¬ i = 82 by omega]⟩)
      · show zV G (eX7_feed (g_rmv 1)) (0, 0) 34 [(0, .ref 76), (1, .int x), (2, .int (nI 4))] [] (mm I J t) _
        refine zV_iload_n dX7_feed_34 rfl 2 rfl rfl ?_
        refine zV_iconst (v := (nI 1)) dX7_feed_35 rfl rfl ?_
        refine zA_isub (z := (nI 3)) dX7_feed_36 rfl  (by decide) ?_
        refine zV_istore_n (lv' := [(0, .ref 76), (1, .int x), (2, .int (nI 4)), (3, .int (nI 3))]) dX7_feed_37 rfl rfl (by decide) rfl ?_
        refine zV_iload_n dX7_feed_38 rfl 3 rfl rfl ?_
        refine zN_if_lt (tgt := 77) dX7_feed_39 rfl (by decide) rfl ?_
        refine zV_aload_n dX7_feed_42 rfl 0 rfl rfl ?_
        refine zV_getr (q' := 82) 9 dX7_feed_43 rfl fl_RX7_26 rfl (by decide) rfl rfl ?_
        refine zV_aload_n dX7_feed_46 rfl 0 rfl rfl ?_
        refine zV_getI (x := (nI S.2.2.2.1.1)) 10 dX7_feed_47 rfl fl_RX7_227 rfl (by decide) rfl hM.2.2.2.1 ?_
        refine zV_iload_n dX7_feed_50 rfl 1 rfl rfl ?_
        refine zV_bipush (v := (nI 8)) dX7_feed_51 rfl rfl ?_
        refine zV_iload_n dX7_feed_53 rfl 3 rfl rfl ?_
        refine zA_imul (z := (nI (8 * 3))) dX7_feed_54 rfl  (pk_mul _ _) ?_
        refine zA_ishr (z := (x >>> ((nI (8 * 3)) &&& 31))) dX7_feed_55 rfl  (rfl) ?_
        refine zV_sipush (v := (nI 255)) dX7_feed_56 rfl rfl ?_
        refine zA_iand (z := (nI (fby x 3))) dX7_feed_59 rfl  (z_hs x 3 (by decide)) ?_
        refine zV_iastore S.2.2.2.1.1 dX7_feed_60 rfl rfl rfl (by omega) (by decide)  ?_
        refine zV_aload_n dX7_feed_61 rfl 0 rfl rfl ?_
        refine zV_dup dX7_feed_62 rfl rfl ?_
        refine zV_getI (x := (nI S.2.2.2.1.1)) 10 dX7_feed_63 rfl fl_RX7_227 rfl (by decide) rfl (by rw [up2_ni (by decide)]; exact hM.2.2.2.1) ?_
        refine zV_iconst (v := (nI 1)) dX7_feed_66 rfl rfl ?_
        refine zA_iadd (z := (nI (S.2.2.2.1.1 + 1))) dX7_feed_67 rfl  (nI_1 _) ?_
        refine zV_puti 10 dX7_feed_68 rfl fl_RX7_227 rfl (by decide) rfl rfl rfl ?_
        refine zV_iinc (y := (nI 2)) (lv' := [(0, .ref 76), (1, .int x), (2, .int (nI 4)), (3, .int (nI 2))]) dX7_feed_71 rfl 3 rfl (by decide) (by decide) rfl ?_
        refine zV_goto (tgt := 38) dX7_feed_74 rfl ?_
        refine zV_iload_n dX7_feed_38 rfl 3 rfl rfl ?_
        refine zN_if_lt (tgt := 77) dX7_feed_39 rfl (by decide) rfl ?_
        refine zV_aload_n dX7_feed_42 rfl 0 rfl rfl ?_
        refine zV_getr (q' := 82) 9 dX7_feed_43 rfl fl_RX7_26 rfl (by decide) rfl rfl ?_
        refine zV_aload_n dX7_feed_46 rfl 0 rfl rfl ?_
        refine zV_getI (x := (nI (S.2.2.2.1.1 + 1))) 10 dX7_feed_47 rfl fl_RX7_227 rfl (by decide) rfl (up2_same _ _ _ _) ?_
        refine zV_iload_n dX7_feed_50 rfl 1 rfl rfl ?_
        refine zV_bipush (v := (nI 8)) dX7_feed_51 rfl rfl ?_
        refine zV_iload_n dX7_feed_53 rfl 3 rfl rfl ?_
        refine zA_imul (z := (nI (8 * 2))) dX7_feed_54 rfl  (pk_mul _ _) ?_
        refine zA_ishr (z := (x >>> ((nI (8 * 2)) &&& 31))) dX7_feed_55 rfl  (rfl) ?_
        refine zV_sipush (v := (nI 255)) dX7_feed_56 rfl rfl ?_
        refine zA_iand (z := (nI (fby x 2))) dX7_feed_59 rfl  (z_hs x 2 (by decide)) ?_
        refine zV_iastore (S.2.2.2.1.1 + 1) dX7_feed_60 rfl rfl rfl (by omega) (by decide)  ?_
        refine zV_aload_n dX7_feed_61 rfl 0 rfl rfl ?_
        refine zV_dup dX7_feed_62 rfl rfl ?_
        refine zV_getI (x := (nI (S.2.2.2.1.1 + 1))) 10 dX7_feed_63 rfl fl_RX7_227 rfl (by decide) rfl (by rw [up2_ni (by decide)]; exact (up2_same _ _ _ _)) ?_
        refine zV_iconst (v := (nI 1)) dX7_feed_66 rfl rfl ?_
        refine zA_iadd (z := (nI (S.2.2.2.1.1 + 2))) dX7_feed_67 rfl  (nI_1 _) ?_
        refine zV_puti 10 dX7_feed_68 rfl fl_RX7_227 rfl (by decide) rfl rfl rfl ?_
        refine zV_iinc (y := (nI 1)) (lv' := [(0, .ref 76), (1, .int x), (2, .int (nI 4)), (3, .int (nI 1))]) dX7_feed_71 rfl 3 rfl (by decide) (by decide) rfl ?_
        refine zV_goto (tgt := 38) dX7_feed_74 rfl ?_
        refine zV_iload_n dX7_feed_38 rfl 3 rfl rfl ?_
        refine zN_if_lt (tgt := 77) dX7_feed_39 rfl (by decide) rfl ?_
        refine zV_aload_n dX7_feed_42 rfl 0 rfl rfl ?_
        refine zV_getr (q' := 82) 9 dX7_feed_43 rfl fl_RX7_26 rfl (by decide) rfl rfl ?_
        refine zV_aload_n dX7_feed_46 rfl 0 rfl rfl ?_
        refine zV_getI (x := (nI (S.2.2.2.1.1 + 2))) 10 dX7_feed_47 rfl fl_RX7_227 rfl (by decide) rfl (up2_same _ _ _ _) ?_
        refine zV_iload_n dX7_feed_50 rfl 1 rfl rfl ?_
        refine zV_bipush (v := (nI 8)) dX7_feed_51 rfl rfl ?_
        refine zV_iload_n dX7_feed_53 rfl 3 rfl rfl ?_
        refine zA_imul (z := (nI (8 * 1))) dX7_feed_54 rfl  (pk_mul _ _) ?_
        refine zA_ishr (z := (x >>> ((nI (8 * 1)) &&& 31))) dX7_feed_55 rfl  (rfl) ?_
        refine zV_sipush (v := (nI 255)) dX7_feed_56 rfl rfl ?_
        refine zA_iand (z := (nI (fby x 1))) dX7_feed_59 rfl  (z_hs x 1 (by decide)) ?_
        refine zV_iastore (S.2.2.2.1.1 + 2) dX7_feed_60 rfl rfl rfl (by omega) (by decide)  ?_
        refine zV_aload_n dX7_feed_61 rfl 0 rfl rfl ?_
        refine zV_dup dX7_feed_62 rfl rfl ?_
        refine zV_getI (x := (nI (S.2.2.2.1.1 + 2))) 10 dX7_feed_63 rfl fl_RX7_227 rfl (by decide) rfl (by rw [up2_ni (by decide)]; exact (up2_same _ _ _ _)) ?_
        refine zV_iconst (v := (nI 1)) dX7_feed_66 rfl rfl ?_
        refine zA_iadd (z := (nI (S.2.2.2.1.1 + 3))) dX7_feed_67 rfl  (nI_1 _) ?_
        refine zV_puti 10 dX7_feed_68 rfl fl_RX7_227 rfl (by decide) rfl rfl rfl ?_
        refine zV_iinc (y := (nI 0)) (lv' := [(0, .ref 76), (1, .int x), (2, .int (nI 4)), (3, .int (nI 0))]) dX7_feed_71 rfl 3 rfl (by decide) (by decide) rfl ?_
        refine zV_goto (tgt := 38) dX7_feed_74 rfl ?_
        refine zV_iload_n dX7_feed_38 rfl 3 rfl rfl ?_
        refine zN_if_lt (tgt := 77) dX7_feed_39 rfl (by decide) rfl ?_
        refine zV_aload_n dX7_feed_42 rfl 0 rfl rfl ?_
        refine zV_getr (q' := 82) 9 dX7_feed_43 rfl fl_RX7_26 rfl (by decide) rfl rfl ?_
        refine zV_aload_n dX7_feed_46 rfl 0 rfl rfl ?_
        refine zV_getI (x := (nI (S.2.2.2.1.1 + 3))) 10 dX7_feed_47 rfl fl_RX7_227 rfl (by decide) rfl (up2_same _ _ _ _) ?_
        refine zV_iload_n dX7_feed_50 rfl 1 rfl rfl ?_
        refine zV_bipush (v := (nI 8)) dX7_feed_51 rfl rfl ?_
        refine zV_iload_n dX7_feed_53 rfl 3 rfl rfl ?_
        refine zA_imul (z := (nI (8 * 0))) dX7_feed_54 rfl  (pk_mul _ _) ?_
        refine zA_ishr (z := (x >>> ((nI (8 * 0)) &&& 31))) dX7_feed_55 rfl  (rfl) ?_
        refine zV_sipush (v := (nI 255)) dX7_feed_56 rfl rfl ?_
        refine zA_iand (z := (nI (fby x 0))) dX7_feed_59 rfl  (z_hs x 0 (by decide)) ?_
        refine zV_iastore (S.2.2.2.1.1 + 3) dX7_feed_60 rfl rfl rfl (by omega) (by decide)  ?_
        refine zV_aload_n dX7_feed_61 rfl 0 rfl rfl ?_
        refine zV_dup dX7_feed_62 rfl rfl ?_
        refine zV_getI (x := (nI (S.2.2.2.1.1 + 3))) 10 dX7_feed_63 rfl fl_RX7_227 rfl (by decide) rfl (by rw [up2_ni (by decide)]; exact (up2_same _ _ _ _)) ?_
        refine zV_iconst (v := (nI 1)) dX7_feed_66 rfl rfl ?_
        refine zA_iadd (z := (nI (S.2.2.2.1.1 + 4))) dX7_feed_67 rfl  (nI_1 _) ?_
        refine zV_puti 10 dX7_feed_68 rfl fl_RX7_227 rfl (by decide) rfl rfl rfl ?_
        refine zV_iinc (y := (-1)) (lv' := [(0, .ref 76), (1, .int x), (2, .int (nI 4)), (3, .int (-1))]) dX7_feed_71 rfl 3 rfl (by decide) (by decide) rfl ?_
        refine zV_goto (tgt := 38) dX7_feed_74 rfl ?_
        refine zV_iload_n dX7_feed_38 rfl 3 rfl rfl ?_
        refine zV_if_lt (tgt := 77) dX7_feed_39 rfl rfl  (fun _ => ?_) (fun z => absurd z (by decide))
        refine zV_aload_n dX7_feed_77 rfl 0 rfl rfl ?_
        refine zV_getI (x := (nI (S.2.2.2.1.1 + 4))) 10 dX7_feed_78 rfl fl_RX7_227 rfl (by decide) rfl (up2_same _ _ _ _) ?_
        exact zV_ireturn dX7_feed_81 rfl rfl (⟨_, _, _, by rw [show op_feed S x (nI 4) = (nI (S.2.2.2.1.1 + 4), st_t S (S.2.2.2.1.1 + 4, ft S.2.2.2.1.1 4 S.2.2.2.1.2 x)) by unfold op_feed; rw [if_pos (by decide), show tn (nI 4) = 4 from tn_nI (by decide), if_pos (show S.2.2.2.1.1 + 4 ≤ 120 by omega)]], rfl, by rw [show op_feed S x (nI 4) = (nI (S.2.2.2.1.1 + 4), st_t S (S.2.2.2.1.1 + 4, ft S.2.2.2.1.1 4 S.2.2.2.1.2 x)) by unfold op_feed; rw [if_pos (by decide), show tn (nI 4) = 4 from tn_nI (by decide), if_pos (show S.2.2.2.1.1 + 4 ≤ 120 by omega)]]; exact hM.tape (up2_same _ _ _ _) (by simp [up2]) (fun j hj => by unfold ft; by_cases h0 : j < S.2.2.2.1.1; (· rw [if_pos h0]; simp only [up2, show ¬ j = S.2.2.2.1.1 by omega, show ¬ j = (S.2.2.2.1.1 + 1) by omega, show ¬ j = (S.2.2.2.1.1 + 2) by omega, show ¬ j = (S.2.2.2.1.1 + 3) by omega, if_false, if_true, reduceIte, show ¬ (40 : Nat) = 0 by decide, show ¬ (82 : Nat) = 76 by decide]; exact hM.2.2.2.2.1 j h0); rw [if_neg h0]; rcases (show j = S.2.2.2.1.1 ∨ j = (S.2.2.2.1.1 + 1) ∨ j = (S.2.2.2.1.1 + 2) ∨ j = (S.2.2.2.1.1 + 3) by omega) with rfl | rfl | rfl | rfl; (· rw [show 4 - 1 - (S.2.2.2.1.1 - S.2.2.2.1.1) = 3 by omega]; simp [up2]); (· rw [show 4 - 1 - ((S.2.2.2.1.1 + 1) - S.2.2.2.1.1) = 2 by omega]; simp [up2]); (· rw [show 4 - 1 - ((S.2.2.2.1.1 + 2) - S.2.2.2.1.1) = 1 by omega]; simp [up2]); (· rw [show 4 - 1 - ((S.2.2.2.1.1 + 3) - S.2.2.2.1.1) = 0 by omega]; simp [up2])) (fun i h0 h40 => by funext k; simp [up2, h0, h40]), fun i hi => by funext k; simp [up2, show ¬ i = 76 by omega, show ¬ i = 82 by omega]⟩)
    · refine zV_aload_n dX7_feed_27 rfl 0 rfl rfl ?_
      refine zV_ldc (v := (-1000002)) dX7_feed_28 rfl tw975 ?_
      refine zV_callV (E' := eX7_finding (g_rmv 0)) (av := [.int (-1000002)]) (st := []) (b := 76) dX7_feed_30 rfl (k_RX7_87 _) rfl ⟨by decide, by decide⟩ ⟨by decide, by decide⟩ (Or.inl rfl) rfl (Nat.le_of_ble_eq_true rfl) rfl rfl rfl (m_finding (w := 1) (by decide) (by decide)) (fun r30 M30 z => ?_)
      obtain ⟨rfl, rfl⟩ := z
      show zV G (eX7_feed (g_rmv 1)) (0, 0) 33 [(0, .ref 76), (1, .int x), (2, .int (nI n))] [.int (fdg 1)] (mm (mTell I 1) J t) _
      exact zV_ireturn dX7_feed_33 rfl rfl (PM.tell hM (by decide) (by unfold op_feed; rw [if_pos h6, tn_nI (show n < 2 ^ 31 by omega), if_neg (show ¬ S.2.2.2.1.1 + n ≤ 120 by omega)]) scM.rf)
  · refine zV_aload_n dX7_feed_9 rfl 0 rfl rfl ?_
    refine zV_ldc (v := (-1000001)) dX7_feed_10 rfl tw970 ?_
    refine zV_callV (E' := eX7_finding (g_rmv 0)) (av := [.int (-1000001)]) (st := []) (b := 76) dX7_feed_12 rfl (k_RX7_87 _) rfl ⟨by decide, by decide⟩ ⟨by decide, by decide⟩ (Or.inl rfl) rfl (Nat.le_of_ble_eq_true rfl) rfl rfl rfl (m_finding (w := 0) (by decide) (by decide)) (fun r12 M12 z => ?_)
    obtain ⟨rfl, rfl⟩ := z
    show zV G (eX7_feed (g_rmv 1)) (0, 0) 15 [(0, .ref 76), (1, .int x), (2, .int y)] [.int (fdg 0)] (mm (mTell I 0) J t) _
    exact zV_ireturn dX7_feed_15 rfl rfl (PM.tell hM (by decide) (by unfold op_feed; rw [if_neg h6]) scM.rf)
