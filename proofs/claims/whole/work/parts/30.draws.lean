/-! draws: both classes -/
theorem nz_I {n : Nat} (h : 0 < n) (hn : n < 2 ^ 31) : ¬ nI n = 0 := fun e => by
  have h1 := congrArg Int32.toInt e
  rw [nI_toInt hn, show (0 : Int32).toInt = 0 from rfl] at h1
  omega
theorem mk_rem (z : Int32) {n : Nat} (h0 : 0 < n) (hn : n ≤ 10) : nI (zn z) - nI (zn z) / nI n * nI n = nI (zn z % n) := pk_rem (by have := zn_lt z; omega) h0 (by omega)
def bc1 (x : Int32) : Int32 := x - ((x.toUInt32 >>> ((nI 1).toUInt32 &&& Int32.toUInt32 31)).toInt32 &&& nI 1431655765)
def bc2 (x : Int32) : Int32 := (x &&& nI 858993459) + ((x.toUInt32 >>> ((nI 2).toUInt32 &&& Int32.toUInt32 31)).toInt32 &&& nI 858993459)
def bc3 (x : Int32) : Int32 := (x + (x.toUInt32 >>> ((nI 4).toUInt32 &&& Int32.toUInt32 31)).toInt32) &&& nI 252645135
def bc4 (x : Int32) : Int32 := x + (x.toUInt32 >>> ((nI 8).toUInt32 &&& Int32.toUInt32 31)).toInt32
def bc5 (x : Int32) : Int32 := x + (x.toUInt32 >>> ((nI 16).toUInt32 &&& Int32.toUInt32 31)).toInt32
set_option maxRecDepth 100000 in
theorem bc_d : ∀ s : Fin 1024, bc5 (bc4 (bc3 (bc2 (bc1 (nI s.val))))) &&& nI 63 = nI (pcnt s.val) := by decide +kernel
set_option maxRecDepth 100000 in
theorem c_bitCount {G : mG} {I : Nat → Nat → Int32} {J : Nat → Nat → Int64} {t : Nat} {s : Nat} (hs : s < 1024) : zC G yJ6_bitCount_0f7a4 (eJ6_bitCount_0f7a4 (g_rmv 0)) [.int (nI s)] (mm I J t) (fun r M => r = some (.int (nI (pcnt s))) ∧ M = mm I J t) := by
  refine zC_of (by decide +kernel) rfl (by decide) (Nat.le_of_ble_eq_true rfl) ?_
  show zV G (eJ6_bitCount_0f7a4 (g_rmv 0)) (0, 0) 0 [(0, .int (nI s))] [] (mm I J t) _
  refine zV_iload_n dJ6_bitCount_0f7a4_0 rfl 0 rfl rfl ?_
  refine zV_iload_n dJ6_bitCount_0f7a4_1 rfl 0 rfl rfl ?_
  refine zV_iconst (v := (nI 1)) dJ6_bitCount_0f7a4_2 rfl rfl ?_
  refine zA_iushr (z := ((((nI s)).toUInt32 >>> (((nI 1)).toUInt32 &&& Int32.toUInt32 31)).toInt32)) dJ6_bitCount_0f7a4_3 rfl  (rfl) ?_
  refine zV_ldcw (v := (nI 1431655765)) dJ6_bitCount_0f7a4_4 rfl tw474 ?_
  refine zA_iand (z := (((((nI s)).toUInt32 >>> (((nI 1)).toUInt32 &&& Int32.toUInt32 31)).toInt32) &&& (nI 1431655765))) dJ6_bitCount_0f7a4_7 rfl  (rfl) ?_
  refine zA_isub (z := (bc1 (nI s))) dJ6_bitCount_0f7a4_8 rfl  (rfl) ?_
  refine zV_istore_n (lv' := [(0, .int (bc1 (nI s)))]) dJ6_bitCount_0f7a4_9 rfl rfl (by decide) rfl ?_
  refine zV_iload_n dJ6_bitCount_0f7a4_10 rfl 0 rfl rfl ?_
  refine zV_ldcw (v := (nI 858993459)) dJ6_bitCount_0f7a4_11 rfl tw475 ?_
  refine zA_iand (z := ((bc1 (nI s)) &&& (nI 858993459))) dJ6_bitCount_0f7a4_14 rfl  (rfl) ?_
  refine zV_iload_n dJ6_bitCount_0f7a4_15 rfl 0 rfl rfl ?_
  refine zV_iconst (v := (nI 2)) dJ6_bitCount_0f7a4_16 rfl rfl ?_
  refine zA_iushr (z := ((((bc1 (nI s))).toUInt32 >>> (((nI 2)).toUInt32 &&& Int32.toUInt32 31)).toInt32)) dJ6_bitCount_0f7a4_17 rfl  (rfl) ?_
  refine zV_ldcw (v := (nI 858993459)) dJ6_bitCount_0f7a4_18 rfl tw475 ?_
  refine zA_iand (z := (((((bc1 (nI s))).toUInt32 >>> (((nI 2)).toUInt32 &&& Int32.toUInt32 31)).toInt32) &&& (nI 858993459))) dJ6_bitCount_0f7a4_21 rfl  (rfl) ?_
  refine zA_iadd (z := (bc2 (bc1 (nI s)))) dJ6_bitCount_0f7a4_22 rfl  (rfl) ?_
  refine zV_istore_n (lv' := [(0, .int (bc2 (bc1 (nI s))))]) dJ6_bitCount_0f7a4_23 rfl rfl (by decide) rfl ?_
  refine zV_iload_n dJ6_bitCount_0f7a4_24 rfl 0 rfl rfl ?_
  refine zV_iload_n dJ6_bitCount_0f7a4_25 rfl 0 rfl rfl ?_
  refine zV_iconst (v := (nI 4)) dJ6_bitCount_0f7a4_26 rfl rfl ?_
  refine zA_iushr (z := ((((bc2 (bc1 (nI s)))).toUInt32 >>> (((nI 4)).toUInt32 &&& Int32.toUInt32 31)).toInt32)) dJ6_bitCount_0f7a4_27 rfl  (rfl) ?_
  refine zA_iadd (z := ((bc2 (bc1 (nI s))) + ((((bc2 (bc1 (nI s)))).toUInt32 >>> (((nI 4)).toUInt32 &&& Int32.toUInt32 31)).toInt32))) dJ6_bitCount_0f7a4_28 rfl  (rfl) ?_
  refine zV_ldcw (v := (nI 252645135)) dJ6_bitCount_0f7a4_29 rfl tw476 ?_
  refine zA_iand (z := (bc3 (bc2 (bc1 (nI s))))) dJ6_bitCount_0f7a4_32 rfl  (rfl) ?_
  refine zV_istore_n (lv' := [(0, .int (bc3 (bc2 (bc1 (nI s)))))]) dJ6_bitCount_0f7a4_33 rfl rfl (by decide) rfl ?_
  refine zV_iload_n dJ6_bitCount_0f7a4_34 rfl 0 rfl rfl ?_
  refine zV_iload_n dJ6_bitCount_0f7a4_35 rfl 0 rfl rfl ?_
  refine zV_bipush (v := (nI 8)) dJ6_bitCount_0f7a4_36 rfl rfl ?_
  refine zA_iushr (z := ((((bc3 (bc2 (bc1 (nI s))))).toUInt32 >>> (((nI 8)).toUInt32 &&& Int32.toUInt32 31)).toInt32)) dJ6_bitCount_0f7a4_38 rfl  (rfl) ?_
  refine zA_iadd (z := (bc4 (bc3 (bc2 (bc1 (nI s)))))) dJ6_bitCount_0f7a4_39 rfl  (rfl) ?_
  refine zV_istore_n (lv' := [(0, .int (bc4 (bc3 (bc2 (bc1 (nI s))))))]) dJ6_bitCount_0f7a4_40 rfl rfl (by decide) rfl ?_
  refine zV_iload_n dJ6_bitCount_0f7a4_41 rfl 0 rfl rfl ?_
  refine zV_iload_n dJ6_bitCount_0f7a4_42 rfl 0 rfl rfl ?_
  refine zV_bipush (v := (nI 16)) dJ6_bitCount_0f7a4_43 rfl rfl ?_
  refine zA_iushr (z := ((((bc4 (bc3 (bc2 (bc1 (nI s)))))).toUInt32 >>> (((nI 16)).toUInt32 &&& Int32.toUInt32 31)).toInt32)) dJ6_bitCount_0f7a4_45 rfl  (rfl) ?_
  refine zA_iadd (z := (bc5 (bc4 (bc3 (bc2 (bc1 (nI s))))))) dJ6_bitCount_0f7a4_46 rfl  (rfl) ?_
  refine zV_istore_n (lv' := [(0, .int (bc5 (bc4 (bc3 (bc2 (bc1 (nI s)))))))]) dJ6_bitCount_0f7a4_47 rfl rfl (by decide) rfl ?_
  refine zV_iload_n dJ6_bitCount_0f7a4_48 rfl 0 rfl rfl ?_
  refine zV_bipush (v := (nI 63)) dJ6_bitCount_0f7a4_49 rfl rfl ?_
  refine zA_iand (z := ((bc5 (bc4 (bc3 (bc2 (bc1 (nI s)))))) &&& (nI 63))) dJ6_bitCount_0f7a4_51 rfl  (rfl) ?_
  exact zV_ireturn dJ6_bitCount_0f7a4_52 rfl rfl (⟨congrArg (fun x => some (Value.int x)) (bc_d ⟨s, hs⟩), rfl⟩)

set_option maxRecDepth 100000 in
theorem m_bits {G : mG} {I : Nat → Nat → Int32} {J : Nat → Nat → Int64} {t : Nat} {s : Nat} (hs : s < 1024) : zC G yX7_bits (eX7_bits (g_rmv 0)) [.int (nI s)] (mm I J t) (fun r M => r = some (.int (nI (pcnt s))) ∧ M = mm I J t) := by
  refine zC_of (by decide +kernel) rfl (by decide) (Nat.le_of_ble_eq_true rfl) ?_
  show zV G (eX7_bits (g_rmv 0)) (0, 0) 0 [(0, .int (nI s))] [] (mm I J t) _
  refine zV_iconst (v := (nI 0)) dX7_bits_0 rfl rfl ?_
  refine zV_istore_n (lv' := [(0, .int (nI s)), (1, .int (nI 0))]) dX7_bits_1 rfl rfl (by decide) rfl ?_
  refine zV_iload_n dX7_bits_2 rfl 0 rfl rfl ?_
  refine zV_istore_n (lv' := [(0, .int (nI s)), (1, .int (nI 0)), (2, .int (nI s))]) dX7_bits_3 rfl rfl (by decide) rfl ?_
  refine z_for (fun c => zV G (eX7_bits (g_rmv 0)) (0, 0) 4 [(0, .int (nI s)), (1, .int (nI c)), (2, .int (nI (bt s c)))] [] (mm I J t) _) (pcnt s) ?_ ?_ 0 (Nat.zero_le _)
  · have b1 := bt_end hs
    refine zV_iload_n dX7_bits_4 rfl 2 rfl rfl ?_
    refine zN_if_eq (tgt := 20) dX7_bits_5 rfl rfl (by omega) (fun _ => ?_) (fun z => absurd z (by omega))
    refine zV_iload_n dX7_bits_20 rfl 1 rfl rfl ?_
    exact zV_ireturn dX7_bits_21 rfl rfl (⟨rfl, rfl⟩)
  · intro c hc ih
    have b1 := bt_nz hs hc
    have b2 := bt_lt hs c
    refine zV_iload_n dX7_bits_4 rfl 2 rfl rfl ?_
    refine zN_if_eq (tgt := 20) dX7_bits_5 rfl rfl (by omega) (fun z => absurd z (by omega)) (fun _ => ?_)
    refine zV_iinc (y := (nI (c + 1))) (lv' := [(0, .int (nI s)), (1, .int (nI (c + 1))), (2, .int (nI (bt s c)))]) dX7_bits_8 rfl 1 rfl (nI_1 _) (by decide) rfl ?_
    refine zV_iload_n dX7_bits_11 rfl 2 rfl rfl ?_
    refine zV_iload_n dX7_bits_12 rfl 2 rfl rfl ?_
    refine zV_iconst (v := (nI 1)) dX7_bits_13 rfl rfl ?_
    refine zA_isub (z := (nI (bt s c - 1))) dX7_bits_14 rfl  (pk_sub (by omega)) ?_
    refine zA_iand (z := (nI (bt s (c + 1)))) dX7_bits_15 rfl  (fa_and _ _) ?_
    refine zV_istore_n (lv' := [(0, .int (nI s)), (1, .int (nI (c + 1))), (2, .int (nI (bt s (c + 1))))]) dX7_bits_16 rfl rfl (by decide) rfl ?_
    refine zV_goto (tgt := 4) dX7_bits_17 rfl ?_
    exact ih

set_option maxRecDepth 100000 in
theorem m_drawn {G : mG} {I : Nat → Nat → Int32} {J : Nat → Nat → Int64} {t : Nat} {B : Nat} {σ : aL} (hR : absR I 77 σ) (hW : wfL B σ) : zC G yX7_drawn (eX7_drawn (g_rmv 0)) [.ref 76] (mm I J t) (fun r M => ∃ I', r = some (.int (nI (zn σ.2.2.2.2))) ∧ M = mm I' J t ∧ absR I' 77 (ld_z σ (zd σ.2.2.2.2)) ∧ frM I I') := by
  refine zC_of (by decide +kernel) rfl (by decide) (Nat.le_of_ble_eq_true rfl) ?_
  have n10 := hW.1
  show zV G (eX7_drawn (g_rmv 0)) (0, 0) 0 [(0, .ref 76)] [] (mm I J t) _
  refine zV_aload_n dX7_drawn_0 rfl 0 rfl rfl ?_
  refine zV_getr (q' := 77) 0 dX7_drawn_1 rfl fl_RX7_9 rfl (by decide) rfl rfl ?_
  refine zV_iconst (v := (nI 2)) dX7_drawn_4 rfl rfl ?_
  refine zV_aload_n dX7_drawn_5 rfl 0 rfl rfl ?_
  refine zV_getr (q' := 77) 0 dX7_drawn_6 rfl fl_RX7_9 rfl (by decide) rfl rfl ?_
  refine zV_iconst (v := (nI 2)) dX7_drawn_9 rfl rfl ?_
  refine zV_iald (x := σ.2.2.2.2) 2 dX7_drawn_10 rfl rfl rfl (by decide) (by decide) hR.2.2.1 ?_
  refine zV_ldc (v := (nI 1103515245)) dX7_drawn_11 rfl tw1251 ?_
  refine zA_imul (z := (σ.2.2.2.2 * (nI 1103515245))) dX7_drawn_13 rfl  (rfl) ?_
  refine zV_sipush (v := (nI 12345)) dX7_drawn_14 rfl rfl ?_
  refine zA_iadd (z := (zd σ.2.2.2.2)) dX7_drawn_17 rfl  (rfl) ?_
  refine zV_iastore 2 dX7_drawn_18 rfl rfl rfl (by decide) (by decide)  ?_
  refine zV_aload_n dX7_drawn_19 rfl 0 rfl rfl ?_
  refine zV_getr (q' := 77) 0 dX7_drawn_20 rfl fl_RX7_9 rfl (by decide) rfl rfl ?_
  refine zV_iconst (v := (nI 2)) dX7_drawn_23 rfl rfl ?_
  refine zV_iald (x := (zd σ.2.2.2.2)) 2 dX7_drawn_24 rfl rfl rfl (by decide) (by decide) (up2_same _ _ _ _) ?_
  refine zV_bipush (v := (nI 8)) dX7_drawn_25 rfl rfl ?_
  refine zA_iushr (z := (nI (zn σ.2.2.2.2))) dX7_drawn_27 rfl  (z_ush8 _) ?_
  exact zV_ireturn dX7_drawn_28 rfl rfl (⟨_, rfl, rfl, hR.z, frM.up⟩)

set_option maxRecDepth 100000 in
theorem p_market {G : mG} {I : Nat → Nat → Int32} {J : Nat → Nat → Int64} {t : Nat} {B : Nat} {S : aS} (hC : InvC I S) (hw : wfS B S) (hB : B + 24 < 1000000) {x : Int32} : zC G yX6_market (eX6_market (g_rmv 4)) [.ref 0, .int x] (mm I J t) (fun r M => PC I (op_market S x) r M) := by
  refine zC_of (by decide +kernel) rfl (by decide) (Nat.le_of_ble_eq_true rfl) ?_
  have n10 := hw.1.1
  show zV G (eX6_market (g_rmv 4)) (0, 0) 0 [(0, .ref 0), (1, .int x)] [] (mm I J t) _
  refine zV_iload_n dX6_market_0 rfl 1 rfl rfl ?_
  refine zV_iconst (v := (nI 1)) dX6_market_1 rfl rfl ?_
  refine zV_icmp_lt (tgt := 11) dX6_market_2 rfl rfl  (fun h2 => ?_) (fun h2 => ?_)
  · refine zV_aload_n dX6_market_11 rfl 0 rfl rfl ?_
    refine zV_ldc (v := (-1000001)) dX6_market_12 rfl tw264 ?_
    refine zV_callV (E' := eX6_tell (g_rmv 1)) (av := [.int (-1000001)]) (st := []) (b := 0) dX6_market_14 rfl (k_RX6_70 _) rfl ⟨by decide, by decide⟩ ⟨by decide, by decide⟩ (Or.inl rfl) rfl (Nat.le_of_ble_eq_true rfl) rfl rfl rfl (c_tell (w := 0) (by decide) (by decide)) (fun r14 M14 z => ?_)
    obtain ⟨rfl, rfl⟩ := z
    show zV G (eX6_market (g_rmv 4)) (0, 0) 17 [(0, .ref 0), (1, .int x)] [.int (fdg 0)] (mm (up2 I 67 0 (I 67 0 + nI 1)) J t) _
    exact zV_ireturn dX6_market_17 rfl rfl (PC.tell hC hw (by unfold op_market; rw [if_neg (show ¬ (nI 1 ≤ x ∧ x ≤ nI 12) from fun q => (Int32.not_le.mpr h2) q.1)]) (fun _ _ => rfl))
  · refine zV_iload_n dX6_market_5 rfl 1 rfl rfl ?_
    refine zV_bipush (v := (nI 12)) dX6_market_6 rfl rfl ?_
    refine zV_icmp_le (tgt := 18) dX6_market_8 rfl rfl  (fun h8 => ?_) (fun h8 => ?_)
    · obtain ⟨n, hn1, hn2, rfl⟩ := z_rng (by decide) (by decide) (show nI 1 ≤ x ∧ x ≤ nI 12 from ⟨Int32.not_lt.mp h2, h8⟩)
      refine zV_aload_n dX6_market_18 rfl 0 rfl rfl ?_
      refine zV_getr (q' := 1) 0 dX6_market_19 rfl fl_RX6_12 rfl (by decide) rfl rfl ?_
      refine zV_getI (x := (nI S.1.1)) 2 dX6_market_22 rfl fl_RX6_74 (sh_land (Or.inl rfl)) (by decide) rfl hC.1.1 ?_
      refine zN_if_gt (tgt := 35) dX6_market_25 rfl rfl (by omega) (fun h25 => ?_) (fun h25 => ?_)
      · refine zV_iconst (v := (nI 0)) dX6_market_35 rfl rfl ?_
        refine zV_istore_n (lv' := [(0, .ref 0), (1, .int (nI n)), (2, .int (nI 0))]) dX6_market_36 rfl rfl (by decide) rfl ?_
        refine z_for (fun c => ∀ (I1 : Nat → Nat → Int32), (absL I1 1 (ld_mks S.1 c) ∧ frL 1 I I1) → zV G (eX6_market (g_rmv 4)) (0, 0) 37 [(0, .ref 0), (1, .int (nI n)), (2, .int (nI c))] [] (mm I1 J t) _) n ?_ ?_ 0 (Nat.zero_le _) I ⟨hC.1, frL.rf⟩
        · intro I1 h1
          have hW1 := wf_mks hw.1 (by omega) n (by omega)
          refine zV_iload_n dX6_market_37 rfl 2 rfl rfl ?_
          refine zV_iload_n dX6_market_38 rfl 1 rfl rfl ?_
          refine zN_icmp_ge (tgt := 98) dX6_market_39 rfl rfl (by omega) (by omega) (fun _ => ?_) (fun z => absurd z (by omega))
          refine zV_aload_n dX6_market_98 rfl 0 rfl rfl ?_
          refine zV_getr (q' := 1) 0 dX6_market_99 rfl fl_RX6_12 rfl (by decide) rfl rfl ?_
          refine zV_aload_n dX6_market_102 rfl 0 rfl rfl ?_
          refine zV_getr (q' := 1) 0 dX6_market_103 rfl fl_RX6_12 rfl (by decide) rfl rfl ?_
          refine zV_iconst (v := (nI 0)) dX6_market_106 rfl rfl ?_
          refine zV_callV (E' := eX1_coinsIn (g_rmv 0)) (av := [.int (nI 0)]) (st := [.ref 1]) (b := 1) dX6_market_107 rfl (k_RX6_127 _) rfl ⟨by decide, by decide⟩ ⟨by decide, by decide⟩ (Or.inl rfl) rfl (Nat.le_of_ble_eq_true rfl) (sh_land (Or.inl rfl)) rfl rfl (c_coinsIn (p := 0) (Or.inl rfl) h1.1 hW1 (by decide)) (fun r107 M107 z => ?_)
          obtain ⟨rfl, rfl⟩ := z
          show zV G (eX6_market (g_rmv 4)) (0, 0) 110 [(0, .ref 0), (1, .int (nI n)), (2, .int (nI n))] [.int (nI (ld_in (ld_mks S.1 n) 0)), .ref 1] (mm I1 J t) _
          refine zV_callV (E' := eX1_worthOf (g_rmv 3)) (av := [.int (nI (ld_in (ld_mks S.1 n) 0))]) (st := []) (b := 1) dX6_market_110 rfl (k_RX6_130 _) rfl ⟨by decide, by decide⟩ ⟨by decide, by decide⟩ (Or.inl rfl) rfl (Nat.le_of_ble_eq_true rfl) (sh_land (Or.inl rfl)) rfl rfl (c_worthOf (s := (ld_in (ld_mks S.1 n) 0)) (Or.inl rfl) h1.1 hW1 (Nat.lt_trans (ld_in_lt hW1.1 _) (by decide))) (fun r110 M110 z => ?_)
          obtain ⟨rfl, rfl⟩ := z
          show zV G (eX6_market (g_rmv 4)) (0, 0) 113 [(0, .ref 0), (1, .int (nI n)), (2, .int (nI n))] [.int (nI (ld_sum (ld_mks S.1 n) (ld_in (ld_mks S.1 n) 0)))] (mm I1 J t) _
          exact zV_ireturn dX6_market_113 rfl rfl (PC.land hC hw (by unfold op_market; rw [if_pos (show nI 1 ≤ nI n ∧ nI n ≤ nI 12 from ⟨Int32.not_lt.mp h2, h8⟩), if_neg (show ¬ S.1.1 = 0 by omega), tn_nI (show n < 2 ^ 31 by omega)]) h1.1 h1.2.one)
        · intro c hc ih
          intro I1 h1
          have hW1 := wf_mks hw.1 (by omega) c (by omega)
          have e1 := ld_mks_n S.1 c
          have hcm := mk_c_lt (σ := (ld_mks S.1 c)) (by omega)
          have hq4 : mk_q (ld_mks S.1 c) < 4 := Nat.mod_lt _ (by decide)
          obtain ⟨w0, w1, w2, w3, w4, w5, w6⟩ := id (hW1.2.1 _ hcm)
          refine zV_iload_n dX6_market_37 rfl 2 rfl rfl ?_
          refine zV_iload_n dX6_market_38 rfl 1 rfl rfl ?_
          refine zN_icmp_ge (tgt := 98) dX6_market_39 rfl rfl (by omega) (by omega) (fun z => absurd z (by omega)) (fun _ => ?_)
          refine zV_aload_n dX6_market_42 rfl 0 rfl rfl ?_
          refine zV_getr (q' := 1) 0 dX6_market_43 rfl fl_RX6_12 rfl (by decide) rfl rfl ?_
          refine zV_getrX (q' := (1 + 1)) 0 dX6_market_46 rfl fl_RX6_86 (sh_land (Or.inl rfl)) (by decide) rfl (R_coins (Or.inl rfl)) ?_
          refine zV_aload_n dX6_market_49 rfl 0 rfl rfl ?_
          refine zV_getr (q' := 1) 0 dX6_market_50 rfl fl_RX6_12 rfl (by decide) rfl rfl ?_
          refine zV_callV (E' := eX1_draw (g_rmv 0)) (av := []) (st := [.ref (1 + 1)]) (b := 1) dX6_market_53 rfl (k_RX6_233 _) rfl ⟨by decide, by decide⟩ ⟨by decide, by decide⟩ (Or.inl rfl) rfl (Nat.le_of_ble_eq_true rfl) (sh_land (Or.inl rfl)) rfl rfl (c_draw (Or.inl rfl) h1.1 hW1) (fun r53 M53 z => ?_)
          obtain ⟨I53, rfl, rfl, hA53, hF53⟩ := z
          show zV G (eX6_market (g_rmv 4)) (0, 0) 56 [(0, .ref 0), (1, .int (nI n)), (2, .int (nI c))] [.int (nI (zn (ld_mks S.1 c).2.2.2.2)), .ref (1 + 1)] (mm I53 J t) _
          refine zV_aload_n dX6_market_56 rfl 0 rfl rfl ?_
          refine zV_getr (q' := 1) 0 dX6_market_57 rfl fl_RX6_12 rfl (by decide) rfl rfl ?_
          refine zV_getI (x := (nI ((ld_mks S.1 c).1))) 2 dX6_market_60 rfl fl_RX6_74 (sh_land (Or.inl rfl)) (by decide) rfl (hA53.1.trans (congrArg nI (ld_z_n _ _))) ?_
          refine zA_irem (z := (nI (mk_c (ld_mks S.1 c)))) dX6_market_63 rfl (nz_I (by omega) (by omega)) (mk_rem _ (by omega) (by omega)) ?_
          refine zV_aaload (q' := (1 + 3 + (mk_c (ld_mks S.1 c)))) (mk_c (ld_mks S.1 c)) dX6_market_64 rfl (sh_coins (Or.inl rfl)) rfl (by decide) rfl (by omega) (by decide) (R_coin (Or.inl rfl) (by omega)) ?_
          refine zV_astore_n (lv' := [(0, .ref 0), (1, .int (nI n)), (2, .int (nI c)), (3, .ref (1 + 3 + (mk_c (ld_mks S.1 c))))]) dX6_market_65 rfl rfl (by decide) rfl ?_
          refine zV_aload_n dX6_market_66 rfl 0 rfl rfl ?_
          refine zV_getr (q' := 1) 0 dX6_market_67 rfl fl_RX6_12 rfl (by decide) rfl rfl ?_
          refine zV_callV (E' := eX1_draw (g_rmv 0)) (av := []) (st := []) (b := 1) dX6_market_70 rfl (k_RX6_233 _) rfl ⟨by decide, by decide⟩ ⟨by decide, by decide⟩ (Or.inl rfl) rfl (Nat.le_of_ble_eq_true rfl) (sh_land (Or.inl rfl)) rfl rfl (c_draw (Or.inl rfl) hA53 (wf_z hW1)) (fun r70 M70 z => ?_)
          obtain ⟨I70, rfl, rfl, hA70, hF70⟩ := z
          rw [ld_z_z, ld_z_at] at hA70
          rw [ld_z_at]
          have hk70 : absK I70 (1 + 3 + mk_c (ld_mks S.1 c)) ((ld_mks S.1 c).2.1 (mk_c (ld_mks S.1 c))) := by have h9 := hA70.2.1 (mk_c (ld_mks S.1 c)) (by rw [ld_z_n]; exact hcm); rwa [ld_z_k] at h9
          show zV G (eX6_market (g_rmv 4)) (0, 0) 73 [(0, .ref 0), (1, .int (nI n)), (2, .int (nI c)), (3, .ref (1 + 3 + (mk_c (ld_mks S.1 c))))] [.int (nI (zn (zd (ld_mks S.1 c).2.2.2.2)))] (mm I70 J t) _
          refine zV_iconst (v := (nI 4)) dX6_market_73 rfl rfl ?_
          refine zA_irem (z := (nI (mk_q (ld_mks S.1 c)))) dX6_market_74 rfl (by decide) (mk_rem _ (by decide) (by decide)) ?_
          refine zV_istore (lv' := [(0, .ref 0), (1, .int (nI n)), (2, .int (nI c)), (3, .ref (1 + 3 + (mk_c (ld_mks S.1 c)))), (4, .int (nI (mk_q (ld_mks S.1 c))))]) dX6_market_75 rfl (by decide) rfl ?_
          refine zV_aload_n dX6_market_77 rfl 3 rfl rfl ?_
          refine zV_getI (x := (nI ((ld_mks S.1 c).2.1 (mk_c (ld_mks S.1 c)) 1))) 1 dX6_market_78 rfl fl_RX6_95 (sh_coin (Or.inl rfl) (by omega)) (by decide) rfl (hk70 1 (by decide)) ?_
          refine zV_iload dX6_market_81 rfl 4 rfl ?_
          refine zN_icmp_eq (tgt := 92) dX6_market_83 rfl rfl (by omega) (by omega) (fun h83 => ?_) (fun h83 => ?_)
          · refine zV_iinc (y := (nI (c + 1))) (lv' := [(0, .ref 0), (1, .int (nI n)), (2, .int (nI (c + 1))), (3, .ref (1 + 3 + (mk_c (ld_mks S.1 c)))), (4, .int (nI (mk_q (ld_mks S.1 c))))]) dX6_market_92 rfl 2 rfl (nI_1 _) (by decide) rfl ?_
            refine zV_goto (tgt := 37) dX6_market_95 rfl ?_
            refine zV_keep (lv' := [(0, .ref 0), (1, .int (nI n)), (2, .int (nI (c + 1)))]) [0, 1, 2] rfl ?_
            exact ih _ ⟨by rw [show ld_mks S.1 (c + 1) = ld_mkz (ld_mks S.1 c) (mk_c (ld_mks S.1 c)) (mk_q (ld_mks S.1 c)) (zd (zd (ld_mks S.1 c).2.2.2.2)) from rfl, ld_mkz, if_pos h83]; exact hA70, h1.2.tr (hF53.tr hF70)⟩
          · refine zV_aload_n dX6_market_86 rfl 3 rfl rfl ?_
            refine zV_iload dX6_market_87 rfl 4 rfl ?_
            refine zV_callV (E' := eX0_payTo (g_rmv 2)) (av := [.int (nI (mk_q (ld_mks S.1 c)))]) (st := []) (b := (1 + 3 + (mk_c (ld_mks S.1 c)))) dX6_market_89 rfl (k_RX6_199 _) rfl ⟨by decide, by decide⟩ ⟨by decide, by decide⟩ (Or.inl rfl) rfl (Nat.le_of_ble_eq_true rfl) (sh_coin (Or.inl rfl) (by omega)) rfl rfl (c_payTo (w := (mk_q (ld_mks S.1 c))) (sh_coin (Or.inl rfl) (by omega)) hk70 (hW1.2.1 _ hcm) (by omega)) (fun r89 M89 z => ?_)
            obtain ⟨I89, rfl, rfl, hK89, hF89⟩ := z
            show zV G (eX6_market (g_rmv 4)) (0, 0) 92 [(0, .ref 0), (1, .int (nI n)), (2, .int (nI c)), (3, .ref (1 + 3 + (mk_c (ld_mks S.1 c)))), (4, .int (nI (mk_q (ld_mks S.1 c))))] [] (mm I89 J t) _
            refine zV_iinc (y := (nI (c + 1))) (lv' := [(0, .ref 0), (1, .int (nI n)), (2, .int (nI (c + 1))), (3, .ref (1 + 3 + (mk_c (ld_mks S.1 c)))), (4, .int (nI (mk_q (ld_mks S.1 c))))]) dX6_market_92 rfl 2 rfl (nI_1 _) (by decide) rfl ?_
            refine zV_goto (tgt := 37) dX6_market_95 rfl ?_
            refine zV_keep (lv' := [(0, .ref 0), (1, .int (nI n)), (2, .int (nI (c + 1)))]) [0, 1, 2] rfl ?_
            exact ih _ ⟨by rw [show ld_mks S.1 (c + 1) = ld_mkz (ld_mks S.1 c) (mk_c (ld_mks S.1 c)) (mk_q (ld_mks S.1 c)) (zd (zd (ld_mks S.1 c).2.2.2.2)) from rfl, ld_mkz, if_neg h83]; exact hA70.cset hK89 hF89, h1.2.tr (hF53.tr (hF70.tr (frL.coin (by omega) hF89)))⟩
      · refine zV_aload_n dX6_market_28 rfl 0 rfl rfl ?_
        refine zV_ldc (v := (-1000005)) dX6_market_29 rfl tw370 ?_
        refine zV_callV (E' := eX6_tell (g_rmv 1)) (av := [.int (-1000005)]) (st := []) (b := 0) dX6_market_31 rfl (k_RX6_70 _) rfl ⟨by decide, by decide⟩ ⟨by decide, by decide⟩ (Or.inl rfl) rfl (Nat.le_of_ble_eq_true rfl) rfl rfl rfl (c_tell (w := 4) (by decide) (by decide)) (fun r31 M31 z => ?_)
        obtain ⟨rfl, rfl⟩ := z
        show zV G (eX6_market (g_rmv 4)) (0, 0) 34 [(0, .ref 0), (1, .int (nI n))] [.int (fdg 4)] (mm (up2 I 67 4 (I 67 4 + nI 1)) J t) _
        exact zV_ireturn dX6_market_34 rfl rfl (PC.tell hC hw (by unfold op_market; rw [if_pos (show nI 1 ≤ nI n ∧ nI n ≤ nI 12 from ⟨Int32.not_lt.mp h2, h8⟩), if_pos (show S.1.1 = 0 by omega)]) (fun _ _ => rfl))
    · refine zV_aload_n dX6_market_11 rfl 0 rfl rfl ?_
      refine zV_ldc (v := (-1000001)) dX6_market_12 rfl tw264 ?_
      refine zV_callV (E' := eX6_tell (g_rmv 1)) (av := [.int (-1000001)]) (st := []) (b := 0) dX6_market_14 rfl (k_RX6_70 _) rfl ⟨by decide, by decide⟩ ⟨by decide, by decide⟩ (Or.inl rfl) rfl (Nat.le_of_ble_eq_true rfl) rfl rfl rfl (c_tell (w := 0) (by decide) (by decide)) (fun r14 M14 z => ?_)
      obtain ⟨rfl, rfl⟩ := z
      show zV G (eX6_market (g_rmv 4)) (0, 0) 17 [(0, .ref 0), (1, .int x)] [.int (fdg 0)] (mm (up2 I 67 0 (I 67 0 + nI 1)) J t) _
      exact zV_ireturn dX6_market_17 rfl rfl (PC.tell hC hw (by unfold op_market; rw [if_neg (show ¬ (nI 1 ≤ x ∧ x ≤ nI 12) from fun q => h8 q.2)]) (fun _ _ => rfl))

set_option maxRecDepth 100000 in
theorem q_market {G : mG} {I : Nat → Nat → Int32} {J : Nat → Nat → Int64} {t : Nat} {B : Nat} {S : aS} (hM : InvM I S) (hw : wfS B S) (hB : B + 24 < 1000000) {x : Int32} : zC G yX7_market (eX7_market (g_rmv 5)) [.ref 76, .int x] (mm I J t) (fun r M => PM I (op_market S x) r M) := by
  refine zC_of (by decide +kernel) rfl (by decide) (Nat.le_of_ble_eq_true rfl) ?_
  have n10 := hw.1.1
  show zV G (eX7_market (g_rmv 5)) (0, 0) 0 [(0, .ref 76), (1, .int x)] [] (mm I J t) _
  refine zV_iload_n dX7_market_0 rfl 1 rfl rfl ?_
  refine zV_iconst (v := (nI 1)) dX7_market_1 rfl rfl ?_
  refine zV_bipush (v := (nI 12)) dX7_market_2 rfl rfl ?_
  refine zV_callS (E' := eX7_within (g_rmv 0)) (av := [.int x, .int (nI 1), .int (nI 12)]) (st := []) dX7_market_4 rfl (k_RX7_72 _) rfl ⟨by decide, by decide⟩ ⟨by decide, by decide⟩ (Or.inl rfl) rfl (Nat.le_of_ble_eq_true rfl) (m_within (x := x) (y := (nI 1)) (z := (nI 12))) (fun r4 M4 z => ?_)
  obtain ⟨rfl, rfl⟩ := z
  show zV G (eX7_market (g_rmv 5)) (0, 0) 7 [(0, .ref 76), (1, .int x)] [.int (b2 ((nI 1) ≤ x ∧ x ≤ (nI 12)))] (mm I J t) _
  refine zB_if_ne (tgt := 17) dX7_market_7 rfl rfl  (fun h7 => ?_) (fun h7 => ?_)
  · obtain ⟨n, hn1, hn2, rfl⟩ := z_rng (by decide) (by decide) h7
    refine zV_aload_n dX7_market_17 rfl 0 rfl rfl ?_
    refine zV_getr (q' := 77) 0 dX7_market_18 rfl fl_RX7_9 rfl (by decide) rfl rfl ?_
    refine zV_iconst (v := (nI 1)) dX7_market_21 rfl rfl ?_
    refine zV_iald (x := (nI S.1.1)) 1 dX7_market_22 rfl rfl rfl (by decide) (by decide) hM.1.2.1 ?_
    refine zN_if_ne (tgt := 33) dX7_market_23 rfl rfl (by omega) (fun h23 => ?_) (fun h23 => ?_)
    · refine zV_iconst (v := (nI 0)) dX7_market_33 rfl rfl ?_
      refine zV_istore_n (lv' := [(0, .ref 76), (1, .int (nI n)), (2, .int (nI 0))]) dX7_market_34 rfl rfl (by decide) rfl ?_
      refine z_for (fun c => ∀ (I1 : Nat → Nat → Int32), (absR I1 77 (ld_mks S.1 c) ∧ frM I I1) → zV G (eX7_market (g_rmv 5)) (0, 0) 35 [(0, .ref 76), (1, .int (nI n)), (2, .int (nI c))] [] (mm I1 J t) _) n ?_ ?_ 0 (Nat.zero_le _) I ⟨hM.1, frM.rf⟩
      · intro I1 h1
        have hW1 := wf_mks hw.1 (by omega) n (by omega)
        refine zV_iload_n dX7_market_35 rfl 2 rfl rfl ?_
        refine zV_iload_n dX7_market_36 rfl 1 rfl rfl ?_
        refine zN_icmp_ge (tgt := 84) dX7_market_37 rfl rfl (by omega) (by omega) (fun _ => ?_) (fun z => absurd z (by omega))
        refine zV_aload_n dX7_market_84 rfl 0 rfl rfl ?_
        refine zV_aload_n dX7_market_85 rfl 0 rfl rfl ?_
        refine zV_iconst (v := (nI 0)) dX7_market_86 rfl rfl ?_
        refine zV_callV (E' := eX7_setOf (g_rmv 2)) (av := [.int (nI 0)]) (st := [.ref 76]) (b := 76) dX7_market_87 rfl (k_RX7_139 _) rfl ⟨by decide, by decide⟩ ⟨by decide, by decide⟩ (Or.inl rfl) rfl (Nat.le_of_ble_eq_true rfl) rfl rfl rfl (m_setOf (p := 0) h1.1 hW1 (by decide)) (fun r87 M87 z => ?_)
        obtain ⟨rfl, rfl⟩ := z
        show zV G (eX7_market (g_rmv 5)) (0, 0) 90 [(0, .ref 76), (1, .int (nI n)), (2, .int (nI n))] [.int (nI (ld_in (ld_mks S.1 n) 0)), .ref 76] (mm I1 J t) _
        refine zV_callV (E' := eX7_sumOf (g_rmv 4)) (av := [.int (nI (ld_in (ld_mks S.1 n) 0))]) (st := []) (b := 76) dX7_market_90 rfl (k_RX7_142 _) rfl ⟨by decide, by decide⟩ ⟨by decide, by decide⟩ (Or.inl rfl) rfl (Nat.le_of_ble_eq_true rfl) rfl rfl rfl (m_sumOf (s := (ld_in (ld_mks S.1 n) 0)) h1.1 hW1 (Nat.lt_trans (ld_in_lt hW1.1 _) (by decide))) (fun r90 M90 z => ?_)
        obtain ⟨rfl, rfl⟩ := z
        show zV G (eX7_market (g_rmv 5)) (0, 0) 93 [(0, .ref 76), (1, .int (nI n)), (2, .int (nI n))] [.int (nI (ld_sum (ld_mks S.1 n) (ld_in (ld_mks S.1 n) 0)))] (mm I1 J t) _
        exact zV_ireturn dX7_market_93 rfl rfl (PM.land hM (by unfold op_market; rw [if_pos h7, if_neg (show ¬ S.1.1 = 0 by omega), tn_nI (show n < 2 ^ 31 by omega)]) scM.rf h1.1 h1.2)
      · intro c hc ih
        intro I1 h1
        have hW1 := wf_mks hw.1 (by omega) c (by omega)
        have e1 := ld_mks_n S.1 c
        have hcm := mk_c_lt (σ := (ld_mks S.1 c)) (by omega)
        have hq4 : mk_q (ld_mks S.1 c) < 4 := Nat.mod_lt _ (by decide)
        obtain ⟨w0, w1, w2, w3, w4, w5, w6⟩ := id (hW1.2.1 _ hcm)
        refine zV_iload_n dX7_market_35 rfl 2 rfl rfl ?_
        refine zV_iload_n dX7_market_36 rfl 1 rfl rfl ?_
        refine zN_icmp_ge (tgt := 84) dX7_market_37 rfl rfl (by omega) (by omega) (fun z => absurd z (by omega)) (fun _ => ?_)
        refine zV_aload_n dX7_market_40 rfl 0 rfl rfl ?_
        refine zV_callV (E' := eX7_drawn (g_rmv 0)) (av := []) (st := []) (b := 76) dX7_market_41 rfl (k_RX7_224 _) rfl ⟨by decide, by decide⟩ ⟨by decide, by decide⟩ (Or.inl rfl) rfl (Nat.le_of_ble_eq_true rfl) rfl rfl rfl (m_drawn h1.1 hW1) (fun r41 M41 z => ?_)
        obtain ⟨I41, rfl, rfl, hR41, hF41⟩ := z
        show zV G (eX7_market (g_rmv 5)) (0, 0) 44 [(0, .ref 76), (1, .int (nI n)), (2, .int (nI c))] [.int (nI (zn (ld_mks S.1 c).2.2.2.2))] (mm I41 J t) _
        refine zV_aload_n dX7_market_44 rfl 0 rfl rfl ?_
        refine zV_getr (q' := 77) 0 dX7_market_45 rfl fl_RX7_9 rfl (by decide) rfl rfl ?_
        refine zV_iconst (v := (nI 1)) dX7_market_48 rfl rfl ?_
        refine zV_iald (x := (nI ((ld_mks S.1 c).1))) 1 dX7_market_49 rfl rfl rfl (by decide) (by decide) (hR41.2.1.trans (congrArg nI (ld_z_n _ _))) ?_
        refine zA_irem (z := (nI (mk_c (ld_mks S.1 c)))) dX7_market_50 rfl (nz_I (by omega) (by omega)) (mk_rem _ (by omega) (by omega)) ?_
        refine zV_istore_n (lv' := [(0, .ref 76), (1, .int (nI n)), (2, .int (nI c)), (3, .int (nI (mk_c (ld_mks S.1 c))))]) dX7_market_51 rfl rfl (by decide) rfl ?_
        refine zV_aload_n dX7_market_52 rfl 0 rfl rfl ?_
        refine zV_callV (E' := eX7_drawn (g_rmv 0)) (av := []) (st := []) (b := 76) dX7_market_53 rfl (k_RX7_224 _) rfl ⟨by decide, by decide⟩ ⟨by decide, by decide⟩ (Or.inl rfl) rfl (Nat.le_of_ble_eq_true rfl) rfl rfl rfl (m_drawn hR41 (wf_z hW1)) (fun r53 M53 z => ?_)
        obtain ⟨I53, rfl, rfl, hR53, hF53⟩ := z
        rw [ld_z_z, ld_z_at] at hR53
        rw [ld_z_at]
        show zV G (eX7_market (g_rmv 5)) (0, 0) 56 [(0, .ref 76), (1, .int (nI n)), (2, .int (nI c)), (3, .int (nI (mk_c (ld_mks S.1 c))))] [.int (nI (zn (zd (ld_mks S.1 c).2.2.2.2)))] (mm I53 J t) _
        refine zV_iconst (v := (nI 4)) dX7_market_56 rfl rfl ?_
        refine zA_irem (z := (nI (mk_q (ld_mks S.1 c)))) dX7_market_57 rfl (by decide) (mk_rem _ (by decide) (by decide)) ?_
        refine zV_istore (lv' := [(0, .ref 76), (1, .int (nI n)), (2, .int (nI c)), (3, .int (nI (mk_c (ld_mks S.1 c)))), (4, .int (nI (mk_q (ld_mks S.1 c))))]) dX7_market_58 rfl (by decide) rfl ?_
        refine zV_aload_n dX7_market_60 rfl 0 rfl rfl ?_
        refine zV_iload_n dX7_market_61 rfl 3 rfl rfl ?_
        refine zV_iconst (v := (nI 1)) dX7_market_62 rfl rfl ?_
        refine zV_callV (E' := eX7_coinIs (g_rmv 1)) (av := [.int (nI (mk_c (ld_mks S.1 c))), .int (nI 1)]) (st := []) (b := 76) dX7_market_63 rfl (k_RX7_99 _) rfl ⟨by decide, by decide⟩ ⟨by decide, by decide⟩ (Or.inl rfl) rfl (Nat.le_of_ble_eq_true rfl) rfl rfl rfl (m_coinIs (c := mk_c (ld_mks S.1 c)) (f := 1) hR53 (wf_z hW1) (by rw [ld_z_n]; exact hcm) (by decide)) (fun r63 M63 z => ?_)
        obtain ⟨rfl, rfl⟩ := z
        rw [ld_z_k]
        show zV G (eX7_market (g_rmv 5)) (0, 0) 66 [(0, .ref 76), (1, .int (nI n)), (2, .int (nI c)), (3, .int (nI (mk_c (ld_mks S.1 c)))), (4, .int (nI (mk_q (ld_mks S.1 c))))] [.int (nI ((ld_mks S.1 c).2.1 (mk_c (ld_mks S.1 c)) 1))] (mm I53 J t) _
        refine zV_iload dX7_market_66 rfl 4 rfl ?_
        refine zN_icmp_eq (tgt := 78) dX7_market_68 rfl rfl (by omega) (by omega) (fun h68 => ?_) (fun h68 => ?_)
        · refine zV_iinc (y := (nI (c + 1))) (lv' := [(0, .ref 76), (1, .int (nI n)), (2, .int (nI (c + 1))), (3, .int (nI (mk_c (ld_mks S.1 c)))), (4, .int (nI (mk_q (ld_mks S.1 c))))]) dX7_market_78 rfl 2 rfl (nI_1 _) (by decide) rfl ?_
          refine zV_goto (tgt := 35) dX7_market_81 rfl ?_
          refine zV_keep (lv' := [(0, .ref 76), (1, .int (nI n)), (2, .int (nI (c + 1)))]) [0, 1, 2] rfl ?_
          exact ih _ ⟨by rw [show ld_mks S.1 (c + 1) = ld_mkz (ld_mks S.1 c) (mk_c (ld_mks S.1 c)) (mk_q (ld_mks S.1 c)) (zd (zd (ld_mks S.1 c).2.2.2.2)) from rfl, ld_mkz, if_pos h68]; exact hR53, h1.2.tr (hF41.tr hF53)⟩
        · refine zV_aload_n dX7_market_71 rfl 0 rfl rfl ?_
          refine zV_iload_n dX7_market_72 rfl 3 rfl rfl ?_
          refine zV_iload dX7_market_73 rfl 4 rfl ?_
          refine zV_callV (E' := eX7_paid (g_rmv 4)) (av := [.int (nI (mk_c (ld_mks S.1 c))), .int (nI (mk_q (ld_mks S.1 c)))]) (st := []) (b := 76) dX7_market_75 rfl (k_RX7_155 _) rfl ⟨by decide, by decide⟩ ⟨by decide, by decide⟩ (Or.inl rfl) rfl (Nat.le_of_ble_eq_true rfl) rfl rfl rfl (m_paid (c := mk_c (ld_mks S.1 c)) (p := mk_q (ld_mks S.1 c)) hR53 (wf_z hW1) (by rw [ld_z_n]; exact hcm) hq4) (fun r75 M75 z => ?_)
          obtain ⟨I75, rfl, rfl, hR75, hF75⟩ := z
          rw [ld_z_k] at hR75
          show zV G (eX7_market (g_rmv 5)) (0, 0) 78 [(0, .ref 76), (1, .int (nI n)), (2, .int (nI c)), (3, .int (nI (mk_c (ld_mks S.1 c)))), (4, .int (nI (mk_q (ld_mks S.1 c))))] [] (mm I75 J t) _
          refine zV_iinc (y := (nI (c + 1))) (lv' := [(0, .ref 76), (1, .int (nI n)), (2, .int (nI (c + 1))), (3, .int (nI (mk_c (ld_mks S.1 c)))), (4, .int (nI (mk_q (ld_mks S.1 c))))]) dX7_market_78 rfl 2 rfl (nI_1 _) (by decide) rfl ?_
          refine zV_goto (tgt := 35) dX7_market_81 rfl ?_
          refine zV_keep (lv' := [(0, .ref 76), (1, .int (nI n)), (2, .int (nI (c + 1)))]) [0, 1, 2] rfl ?_
          exact ih _ ⟨by rw [show ld_mks S.1 (c + 1) = ld_mkz (ld_mks S.1 c) (mk_c (ld_mks S.1 c)) (mk_q (ld_mks S.1 c)) (zd (zd (ld_mks S.1 c).2.2.2.2)) from rfl, ld_mkz, if_neg h68]; exact hR75, h1.2.tr (hF41.tr (hF53.tr hF75))⟩
    · refine zV_aload_n dX7_market_26 rfl 0 rfl rfl ?_
      refine zV_ldc (v := (-1000005)) dX7_market_27 rfl tw1079 ?_
      refine zV_callV (E' := eX7_finding (g_rmv 0)) (av := [.int (-1000005)]) (st := []) (b := 76) dX7_market_29 rfl (k_RX7_87 _) rfl ⟨by decide, by decide⟩ ⟨by decide, by decide⟩ (Or.inl rfl) rfl (Nat.le_of_ble_eq_true rfl) rfl rfl rfl (m_finding (w := 4) (by decide) (by decide)) (fun r29 M29 z => ?_)
      obtain ⟨rfl, rfl⟩ := z
      show zV G (eX7_market (g_rmv 5)) (0, 0) 32 [(0, .ref 76), (1, .int (nI n))] [.int (fdg 4)] (mm (mTell I 4) J t) _
      exact zV_ireturn dX7_market_32 rfl rfl (PM.tell hM (by decide) (by unfold op_market; rw [if_pos h7, if_pos (show S.1.1 = 0 by omega)]) scM.rf)
  · refine zV_aload_n dX7_market_10 rfl 0 rfl rfl ?_
    refine zV_ldc (v := (-1000001)) dX7_market_11 rfl tw970 ?_
    refine zV_callV (E' := eX7_finding (g_rmv 0)) (av := [.int (-1000001)]) (st := []) (b := 76) dX7_market_13 rfl (k_RX7_87 _) rfl ⟨by decide, by decide⟩ ⟨by decide, by decide⟩ (Or.inl rfl) rfl (Nat.le_of_ble_eq_true rfl) rfl rfl rfl (m_finding (w := 0) (by decide) (by decide)) (fun r13 M13 z => ?_)
    obtain ⟨rfl, rfl⟩ := z
    show zV G (eX7_market (g_rmv 5)) (0, 0) 16 [(0, .ref 76), (1, .int x)] [.int (fdg 0)] (mm (mTell I 0) J t) _
    exact zV_ireturn dX7_market_16 rfl rfl (PM.tell hM (by decide) (by unfold op_market; rw [if_neg h7]) scM.rf)
