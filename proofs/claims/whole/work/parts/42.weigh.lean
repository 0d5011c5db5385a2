/-! weigh, totals, fewest -/
set_option maxRecDepth 100000 in
theorem c_totalOf {G : mG} {I : Nat → Nat → Int32} {J : Nat → Nat → Int64} {t : Nat} {q s : Nat} {e : Nat → Int32} (hq : sh0[q]? = some (1, 0, 10)) (hs : s < 1024) (he : ∀ c, c < 10 → s.testBit c = true → I q c = e c) : zC G yX5_totalOf (eX5_totalOf (g_rmv 1)) [.ref q, .int (nI s)] (mm I J t) (fun r M => r = some (.int (tsm e s 10)) ∧ M = mm I J t) := by
  refine zC_of (by decide +kernel) rfl (by decide) (Nat.le_of_ble_eq_true rfl) ?_
  show zV G (eX5_totalOf (g_rmv 1)) (0, 0) 0 [(0, .ref q), (1, .int (nI s))] [] (mm I J t) _
  refine zV_iconst (v := (nI 0)) dX5_totalOf_0 rfl rfl ?_
  refine zV_istore_n (lv' := [(0, .ref q), (1, .int (nI s)), (2, .int (nI 0))]) dX5_totalOf_1 rfl rfl (by decide) rfl ?_
  refine zV_iconst (v := (nI 0)) dX5_totalOf_2 rfl rfl ?_
  refine zV_istore_n (lv' := [(0, .ref q), (1, .int (nI s)), (2, .int (nI 0)), (3, .int (nI 0))]) dX5_totalOf_3 rfl rfl (by decide) rfl ?_
  refine z_for (fun c => zV G (eX5_totalOf (g_rmv 1)) (0, 0) 4 [(0, .ref q), (1, .int (nI s)), (2, .int (tsm e s c)), (3, .int (nI c))] [] (mm I J t) _) 10 ?_ ?_ 0 (Nat.zero_le _)
  · skip
    refine zV_iload_n dX5_totalOf_4 rfl 3 rfl rfl ?_
    refine zV_bipush (v := (nI 10)) dX5_totalOf_5 rfl rfl ?_
    refine zN_icmp_ge (tgt := 30) dX5_totalOf_7 rfl rfl (by omega) (by omega) (fun _ => ?_) (fun z => absurd z (by omega))
    refine zV_iload_n dX5_totalOf_30 rfl 2 rfl rfl ?_
    exact zV_ireturn dX5_totalOf_31 rfl rfl (⟨rfl, rfl⟩)
  · intro c hc ih
    refine zV_iload_n dX5_totalOf_4 rfl 3 rfl rfl ?_
    refine zV_bipush (v := (nI 10)) dX5_totalOf_5 rfl rfl ?_
    refine zN_icmp_ge (tgt := 30) dX5_totalOf_7 rfl rfl (by omega) (by omega) (fun z => absurd z (by omega)) (fun _ => ?_)
    refine zV_iload_n dX5_totalOf_10 rfl 1 rfl rfl ?_
    refine zV_iload_n dX5_totalOf_11 rfl 3 rfl rfl ?_
    refine zV_callSN (E' := eX6_holds (g_rmv 0)) (av := [.int (nI s), .int (nI c)]) (st := []) dX5_totalOf_12 rfl (k_RX5_114 _) rfl ⟨by decide, by decide⟩ ⟨by decide, by decide⟩ (Or.inl rfl) rfl (Nat.le_of_ble_eq_true rfl) (c_holds (s := s) (c := c) (by omega) (by omega)) (fun r12 M12 z => ?_)
    obtain ⟨rfl, rfl⟩ := z
    show zV G (eX5_totalOf (g_rmv 1)) (0, 0) 15 [(0, .ref q), (1, .int (nI s)), (2, .int (tsm e s c)), (3, .int (nI c))] [.int (b2 ((s).testBit c = true))] (mm I J t) _
    refine zB_if_eq (tgt := 24) dX5_totalOf_15 rfl rfl  (fun h15 => ?_) (fun h15 => ?_)
    · refine zV_iinc (y := (nI (c + 1))) (lv' := [(0, .ref q), (1, .int (nI s)), (2, .int (tsm e s c)), (3, .int (nI (c + 1)))]) dX5_totalOf_24 rfl 3 rfl (nI_1 _) (by decide) rfl ?_
      refine zV_goto (tgt := 4) dX5_totalOf_27 rfl ?_
      rw [show tsm e s (c + 1) = (tsm e s c) from if_neg h15] at ih
      exact ih
    · refine zV_iload_n dX5_totalOf_18 rfl 2 rfl rfl ?_
      refine zV_aload_n dX5_totalOf_19 rfl 0 rfl rfl ?_
      refine zV_iload_n dX5_totalOf_20 rfl 3 rfl rfl ?_
      refine zV_iald (x := (e c)) c dX5_totalOf_21 rfl hq rfl (by omega) (by decide) (he c hc h15) ?_
      refine zA_iadd (z := ((tsm e s c) + (e c))) dX5_totalOf_22 rfl  (rfl) ?_
      refine zV_istore_n (lv' := [(0, .ref q), (1, .int (nI s)), (2, .int ((tsm e s c) + (e c))), (3, .int (nI c))]) dX5_totalOf_23 rfl rfl (by decide) rfl ?_
      refine zV_iinc (y := (nI (c + 1))) (lv' := [(0, .ref q), (1, .int (nI s)), (2, .int ((tsm e s c) + (e c))), (3, .int (nI (c + 1)))]) dX5_totalOf_24 rfl 3 rfl (nI_1 _) (by decide) rfl ?_
      refine zV_goto (tgt := 4) dX5_totalOf_27 rfl ?_
      rw [show tsm e s (c + 1) = ((tsm e s c) + (e c)) from if_pos h15] at ih
      exact ih

set_option maxRecDepth 100000 in
theorem c_weigh {G : mG} {I : Nat → Nat → Int32} {J : Nat → Nat → Int64} {t : Nat} {b B : Nat} {σ : aL} (hb : isLand b) (hA : absL I b σ) (hW : wfL B σ) {p q : Nat} (hp : p < 4) (hq : q < 4) (hpq : p ≠ q) : zC G yX5_weigh (eX5_weigh (g_rmv 3)) [.ref 61, .ref b, .int (nI p), .int (nI q)] (mm I J t) (fun r M => ∃ I', r = none ∧ M = mm I' J t ∧ I' 61 2 = nI (slc (ld_u σ p q) 10) ∧ (∀ i, i < slc (ld_u σ p q) 10 → I' 62 i = nI (slf (ld_u σ p q) 10 i) ∧ I' 63 i = tsm (wE σ p) (slf (ld_u σ p q) 10 i) 10) ∧ (∀ c, (ld_u σ p q).testBit c = true → I' 65 c = wL σ p c ∧ I' 66 c = wO σ p q c) ∧ ∀ i, (i < 61 ∨ 66 < i) → I' i = I i) := by
  refine zC_of (by decide +kernel) rfl (by decide) (Nat.le_of_ble_eq_true rfl) ?_
  have n10 := hW.1
  have hb27 : b ≤ 27 := by rcases hb with rfl | rfl | rfl <;> decide
  show zV G (eX5_weigh (g_rmv 3)) (0, 0) 0 [(0, .ref 61), (1, .ref b), (2, .int (nI p)), (3, .int (nI q))] [] (mm I J t) _
  refine zV_iconst (v := (nI 0)) dX5_weigh_0 rfl rfl ?_
  refine zV_istore (lv' := [(0, .ref 61), (1, .ref b), (2, .int (nI p)), (3, .int (nI q)), (4, .int (nI 0))]) dX5_weigh_1 rfl (by decide) rfl ?_
  refine zV_iconst (v := (nI 0)) dX5_weigh_3 rfl rfl ?_
  refine zV_istore (lv' := [(0, .ref 61), (1, .ref b), (2, .int (nI p)), (3, .int (nI q)), (4, .int (nI 0)), (5, .int (nI 0))]) dX5_weigh_4 rfl (by decide) rfl ?_
  refine z_for (fun c => ∀ (I1 : Nat → Nat → Int32), ((∀ i, i < c → (uP σ p q) i = true → I1 64 i = wE σ p i ∧ I1 65 i = wL σ p i ∧ I1 66 i = wO σ p q i) ∧ ∀ i, i ≠ 64 → i ≠ 65 → i ≠ 66 → I1 i = I i) → zV G (eX5_weigh (g_rmv 3)) (0, 0) 6 [(0, .ref 61), (1, .ref b), (2, .int (nI p)), (3, .int (nI q)), (4, .int (nI (bitsTo (uP σ p q) c))), (5, .int (nI c))] [] (mm I1 J t) _) σ.1 ?_ ?_ 0 (Nat.zero_le _) I ⟨fun i h => absurd h (Nat.not_lt_zero _), fun _ _ _ _ => rfl⟩
  · intro I1 h1
    rw [ld_u_is]
    refine zV_iload dX5_weigh_6 rfl 5 rfl ?_
    refine zV_aload_n dX5_weigh_8 rfl 1 rfl rfl ?_
    refine zV_getI (x := (nI σ.1)) 2 dX5_weigh_9 rfl fl_RX5_40 (sh_land hb) (by decide) rfl (by rw [h1.2 b (by omega) (by omega) (by omega)]; exact hA.1) ?_
    refine zN_icmp_ge (tgt := 141) dX5_weigh_12 rfl rfl (by omega) (by omega) (fun _ => ?_) (fun z => absurd z (by omega))
    refine zV_aload_n dX5_weigh_141 rfl 0 rfl rfl ?_
    refine zV_iload dX5_weigh_142 rfl 4 rfl ?_
    refine zV_callV (E' := eX5_listSets (g_rmv 1)) (av := [.int (nI (ld_u σ p q))]) (st := []) (b := 61) dX5_weigh_144 rfl (k_RX5_55 _) rfl ⟨by decide, by decide⟩ ⟨by decide, by decide⟩ (Or.inl rfl) rfl (Nat.le_of_ble_eq_true rfl) rfl rfl rfl (c_listSets (s := ld_u σ p q) (e := wE σ p) (ld_u_lt n10 p q) (fun c _ hb => (h1.1 c (ld_u_test hb).1 (decide_eq_true (ld_u_test hb).2)).1)) (fun r144 M144 z => ?_)
    obtain ⟨I144, rfl, rfl, hN144, hL144, hF144⟩ := z
    show zV G (eX5_weigh (g_rmv 3)) (0, 0) 147 [(0, .ref 61), (1, .ref b), (2, .int (nI p)), (3, .int (nI q)), (4, .int (nI (ld_u σ p q))), (5, .int (nI σ.1))] [] (mm I144 J t) _
    exact zV_return dX5_weigh_147 rfl (⟨_, rfl, rfl, hN144, hL144, fun c hb => by rw [hF144 65 (by decide) (by decide) (by decide), hF144 66 (by decide) (by decide) (by decide)]; exact (h1.1 c (ld_u_test hb).1 (decide_eq_true (ld_u_test hb).2)).2, fun i hi => by rw [hF144 i (by omega) (by omega) (by omega), h1.2 i (by omega) (by omega) (by omega)]⟩)
  · intro c hc ih
    intro I1 h1
    have hk : absK I1 (b + 3 + c) (σ.2.1 c) := fun f hf => by rw [h1.2 (b + 3 + c) (by omega) (by omega) (by omega)]; exact hA.2.1 c hc f hf
    obtain ⟨w0, w1, w2, w3, w4, w5, w6⟩ := id (hW.2.1 c hc)
    refine zV_iload dX5_weigh_6 rfl 5 rfl ?_
    refine zV_aload_n dX5_weigh_8 rfl 1 rfl rfl ?_
    refine zV_getI (x := (nI σ.1)) 2 dX5_weigh_9 rfl fl_RX5_40 (sh_land hb) (by decide) rfl (by rw [h1.2 b (by omega) (by omega) (by omega)]; exact hA.1) ?_
    refine zN_icmp_ge (tgt := 141) dX5_weigh_12 rfl rfl (by omega) (by omega) (fun z => absurd z (by omega)) (fun _ => ?_)
    refine zV_aload_n dX5_weigh_15 rfl 1 rfl rfl ?_
    refine zV_getrX (q' := (b + 1)) 0 dX5_weigh_16 rfl fl_RX5_45 (sh_land hb) (by decide) rfl (R_coins hb) ?_
    refine zV_iload dX5_weigh_19 rfl 5 rfl ?_
    refine zV_aaload (q' := (b + 3 + c)) c dX5_weigh_21 rfl (sh_coins hb) rfl (by decide) rfl (by omega) (by decide) (R_coin hb (by omega)) ?_
    refine zV_astore (lv' := [(0, .ref 61), (1, .ref b), (2, .int (nI p)), (3, .int (nI q)), (4, .int (nI (bitsTo (uP σ p q) c))), (5, .int (nI c)), (6, .ref (b + 3 + c))]) dX5_weigh_22 rfl (by decide) rfl ?_
    refine zV_aload dX5_weigh_24 rfl 6 rfl ?_
    refine zV_callV (E' := eX0_worthNow (g_rmv 2)) (av := []) (st := []) (b := (b + 3 + c)) dX5_weigh_26 rfl (k_RX5_49 _) rfl ⟨by decide, by decide⟩ ⟨by decide, by decide⟩ (Or.inl rfl) rfl (Nat.le_of_ble_eq_true rfl) (sh_coin hb (by omega)) rfl rfl (c_worthNow (sh_coin hb (by omega)) hk (hW.2.1 c hc)) (fun r26 M26 z => ?_)
    obtain ⟨rfl, rfl⟩ := z
    show zV G (eX5_weigh (g_rmv 3)) (0, 0) 29 [(0, .ref 61), (1, .ref b), (2, .int (nI p)), (3, .int (nI q)), (4, .int (nI (bitsTo (uP σ p q) c))), (5, .int (nI c)), (6, .ref (b + 3 + c))] [.int (nI (k_now (σ.2.1 c)))] (mm I1 J t) _
    refine zV_istore (lv' := [(0, .ref 61), (1, .ref b), (2, .int (nI p)), (3, .int (nI q)), (4, .int (nI (bitsTo (uP σ p q) c))), (5, .int (nI c)), (6, .ref (b + 3 + c)), (7, .int (nI (k_now (σ.2.1 c))))]) dX5_weigh_29 rfl (by decide) rfl ?_
    refine zV_aload dX5_weigh_31 rfl 6 rfl ?_
    refine zV_getI (x := (nI (σ.2.1 c 1))) 1 dX5_weigh_33 rfl fl_RX5_108 (sh_coin hb (by omega)) (by decide) rfl (hk 1 (by decide)) ?_
    refine zV_iload_n dX5_weigh_36 rfl 2 rfl rfl ?_
    refine zN_icmp_ne (tgt := 84) dX5_weigh_37 rfl rfl (by omega) (by omega) (fun h37 => ?_) (fun h37 => ?_)
    · skip
      refine zV_aload dX5_weigh_84 rfl 6 rfl ?_
      refine zV_getI (x := (nI (σ.2.1 c 1))) 1 dX5_weigh_86 rfl fl_RX5_108 (sh_coin hb (by omega)) (by decide) rfl (hk 1 (by decide)) ?_
      refine zV_iload_n dX5_weigh_89 rfl 3 rfl rfl ?_
      refine zN_icmp_ne (tgt := 135) dX5_weigh_90 rfl rfl (by omega) (by omega) (fun h90 => ?_) (fun h90 => ?_)
      · refine zV_iinc (y := (nI (c + 1))) (lv' := [(0, .ref 61), (1, .ref b), (2, .int (nI p)), (3, .int (nI q)), (4, .int (nI (bitsTo (uP σ p q) c))), (5, .int (nI (c + 1))), (6, .ref (b + 3 + c)), (7, .int (nI (k_now (σ.2.1 c))))]) dX5_weigh_135 rfl 5 rfl (nI_1 _) (by decide) rfl ?_
        refine zV_goto (tgt := 6) dX5_weigh_138 rfl ?_
        refine zV_keep (lv' := [(0, .ref 61), (1, .ref b), (2, .int (nI p)), (3, .int (nI q)), (4, .int (nI (bitsTo (uP σ p q) c))), (5, .int (nI (c + 1)))]) [0, 1, 2, 3, 4, 5] rfl ?_
        have hu : ¬ (uP σ p q) c = true := fun z => by have := of_decide_eq_true z; omega
        rw [show bitsTo (uP σ p q) (c + 1) = (bitsTo (uP σ p q) c) by simp [bitsTo, hu]] at ih
        exact ih I1 ⟨fun i hi hu2 => by
            by_cases ei : i = c
            · rw [ei] at hu2; exact absurd hu2 hu
            · exact h1.1 i (by omega) hu2, h1.2⟩
      · refine zV_iload dX5_weigh_93 rfl 4 rfl ?_
        refine zV_iconst (v := (nI 1)) dX5_weigh_95 rfl rfl ?_
        refine zV_iload dX5_weigh_96 rfl 5 rfl ?_
        refine zA_ishl (z := (nI (2 ^ c))) dX5_weigh_98 rfl  (z_shl1 (by omega)) ?_
        refine zA_ior (z := (nI ((bitsTo (uP σ p q) c) + (2 ^ c)))) dX5_weigh_99 rfl  (z_or (bitsTo_lt _ _)) ?_
        refine zV_istore (lv' := [(0, .ref 61), (1, .ref b), (2, .int (nI p)), (3, .int (nI q)), (4, .int (nI ((bitsTo (uP σ p q) c) + (2 ^ c)))), (5, .int (nI c)), (6, .ref (b + 3 + c)), (7, .int (nI (k_now (σ.2.1 c))))]) dX5_weigh_100 rfl (by decide) rfl ?_
        refine zV_aload_n dX5_weigh_102 rfl 0 rfl rfl ?_
        refine zV_getr (q' := 64) 3 dX5_weigh_103 rfl fl_RX5_22 rfl (by decide) rfl rfl ?_
        refine zV_iload dX5_weigh_106 rfl 5 rfl ?_
        refine zV_iload dX5_weigh_108 rfl 7 rfl ?_
        refine zA_ineg (z := (-(nI (k_now (σ.2.1 c))))) dX5_weigh_110 rfl (rfl) ?_
        refine zV_iastore c dX5_weigh_111 rfl rfl rfl (by omega) (by decide)  ?_
        refine zV_aload_n dX5_weigh_112 rfl 0 rfl rfl ?_
        refine zV_getr (q' := 65) 4 dX5_weigh_113 rfl fl_RX5_25 rfl (by decide) rfl rfl ?_
        refine zV_iload dX5_weigh_116 rfl 5 rfl ?_
        refine zV_aload dX5_weigh_118 rfl 6 rfl ?_
        refine zV_iload_n dX5_weigh_120 rfl 2 rfl rfl ?_
        refine zV_callV (E' := eX0_worthPaidTo (g_rmv 2)) (av := [.int (nI p)]) (st := [.int (nI c), .ref 65]) (b := (b + 3 + c)) dX5_weigh_121 rfl (k_RX5_111 _) rfl ⟨by decide, by decide⟩ ⟨by decide, by decide⟩ (Or.inl rfl) rfl (Nat.le_of_ble_eq_true rfl) (sh_coin hb (by omega)) rfl rfl (c_worthPaid (wh := p) (sh_coin hb (by omega)) (fun f hf => by rw [up2_ni (by omega)]; exact hk f hf) (hW.2.1 c hc) (by omega)) (fun r121 M121 z => ?_)
        obtain ⟨rfl, rfl⟩ := z
        show zV G (eX5_weigh (g_rmv 3)) (0, 0) 124 [(0, .ref 61), (1, .ref b), (2, .int (nI p)), (3, .int (nI q)), (4, .int (nI ((bitsTo (uP σ p q) c) + (2 ^ c)))), (5, .int (nI c)), (6, .ref (b + 3 + c)), (7, .int (nI (k_now (σ.2.1 c))))] [.int (nI (k_paid (σ.2.1 c) p)), .int (nI c), .ref 65] (mm (up2 I1 64 c (-(nI (k_now (σ.2.1 c))))) J t) _
        refine zA_ineg (z := (-(nI (k_paid (σ.2.1 c) p)))) dX5_weigh_124 rfl (rfl) ?_
        refine zV_iastore c dX5_weigh_125 rfl rfl rfl (by omega) (by decide)  ?_
        refine zV_aload_n dX5_weigh_126 rfl 0 rfl rfl ?_
        refine zV_getr (q' := 66) 5 dX5_weigh_127 rfl fl_RX5_28 rfl (by decide) rfl rfl ?_
        refine zV_iload dX5_weigh_130 rfl 5 rfl ?_
        refine zV_iload dX5_weigh_132 rfl 7 rfl ?_
        refine zV_iastore c dX5_weigh_134 rfl rfl rfl (by omega) (by decide)  ?_
        refine zV_iinc (y := (nI (c + 1))) (lv' := [(0, .ref 61), (1, .ref b), (2, .int (nI p)), (3, .int (nI q)), (4, .int (nI ((bitsTo (uP σ p q) c) + (2 ^ c)))), (5, .int (nI (c + 1))), (6, .ref (b + 3 + c)), (7, .int (nI (k_now (σ.2.1 c))))]) dX5_weigh_135 rfl 5 rfl (nI_1 _) (by decide) rfl ?_
        refine zV_goto (tgt := 6) dX5_weigh_138 rfl ?_
        refine zV_keep (lv' := [(0, .ref 61), (1, .ref b), (2, .int (nI p)), (3, .int (nI q)), (4, .int (nI ((bitsTo (uP σ p q) c) + (2 ^ c)))), (5, .int (nI (c + 1)))]) [0, 1, 2, 3, 4, 5] rfl ?_
        have hu : (uP σ p q) c = true := decide_eq_true (by omega)
        rw [show bitsTo (uP σ p q) (c + 1) = ((bitsTo (uP σ p q) c) + (2 ^ c)) by simp [bitsTo, hu]] at ih
        exact ih _ ⟨fun i hi hu2 => by
            by_cases ei : i = c
            · subst ei; exact ⟨by rw [up2_ni (by decide), up2_ni (by decide), up2_same, wE, if_neg h37], by rw [up2_ni (by decide), up2_same, wL, if_neg h37], by rw [up2_same, wO, if_neg h37]⟩
            · rw [up2_ni (show 64 ≠ 66 by decide), up2_ni (show 64 ≠ 65 by decide), up2_nk ei, up2_ni (show 65 ≠ 66 by decide), up2_nk ei, up2_ni (show 65 ≠ 64 by decide), up2_nk ei, up2_ni (show 66 ≠ 65 by decide), up2_ni (show 66 ≠ 64 by decide)]; exact h1.1 i (by omega) hu2, fun i a b g => by rw [← h1.2 i a b g]; funext k; rw [up2_ni g, up2_ni b, up2_ni a]⟩
    · skip
      refine zV_iload dX5_weigh_40 rfl 4 rfl ?_
      refine zV_iconst (v := (nI 1)) dX5_weigh_42 rfl rfl ?_
      refine zV_iload dX5_weigh_43 rfl 5 rfl ?_
      refine zA_ishl (z := (nI (2 ^ c))) dX5_weigh_45 rfl  (z_shl1 (by omega)) ?_
      refine zA_ior (z := (nI ((bitsTo (uP σ p q) c) + (2 ^ c)))) dX5_weigh_46 rfl  (z_or (bitsTo_lt _ _)) ?_
      refine zV_istore (lv' := [(0, .ref 61), (1, .ref b), (2, .int (nI p)), (3, .int (nI q)), (4, .int (nI ((bitsTo (uP σ p q) c) + (2 ^ c)))), (5, .int (nI c)), (6, .ref (b + 3 + c)), (7, .int (nI (k_now (σ.2.1 c))))]) dX5_weigh_47 rfl (by decide) rfl ?_
      refine zV_aload_n dX5_weigh_49 rfl 0 rfl rfl ?_
      refine zV_getr (q' := 64) 3 dX5_weigh_50 rfl fl_RX5_22 rfl (by decide) rfl rfl ?_
      refine zV_iload dX5_weigh_53 rfl 5 rfl ?_
      refine zV_iload dX5_weigh_55 rfl 7 rfl ?_
      refine zV_iastore c dX5_weigh_57 rfl rfl rfl (by omega) (by decide)  ?_
      refine zV_aload_n dX5_weigh_58 rfl 0 rfl rfl ?_
      refine zV_getr (q' := 65) 4 dX5_weigh_59 rfl fl_RX5_25 rfl (by decide) rfl rfl ?_
      refine zV_iload dX5_weigh_62 rfl 5 rfl ?_
      refine zV_iload dX5_weigh_64 rfl 7 rfl ?_
      refine zV_iastore c dX5_weigh_66 rfl rfl rfl (by omega) (by decide)  ?_
      refine zV_aload_n dX5_weigh_67 rfl 0 rfl rfl ?_
      refine zV_getr (q' := 66) 5 dX5_weigh_68 rfl fl_RX5_28 rfl (by decide) rfl rfl ?_
      refine zV_iload dX5_weigh_71 rfl 5 rfl ?_
      refine zV_aload dX5_weigh_73 rfl 6 rfl ?_
      refine zV_iload_n dX5_weigh_75 rfl 3 rfl rfl ?_
      refine zV_callV (E' := eX0_worthPaidTo (g_rmv 2)) (av := [.int (nI q)]) (st := [.int (nI c), .ref 66]) (b := (b + 3 + c)) dX5_weigh_76 rfl (k_RX5_111 _) rfl ⟨by decide, by decide⟩ ⟨by decide, by decide⟩ (Or.inl rfl) rfl (Nat.le_of_ble_eq_true rfl) (sh_coin hb (by omega)) rfl rfl (c_worthPaid (wh := q) (sh_coin hb (by omega)) (fun f hf => by rw [up2_ni (by omega), up2_ni (by omega)]; exact hk f hf) (hW.2.1 c hc) (by omega)) (fun r76 M76 z => ?_)
      obtain ⟨rfl, rfl⟩ := z
      show zV G (eX5_weigh (g_rmv 3)) (0, 0) 79 [(0, .ref 61), (1, .ref b), (2, .int (nI p)), (3, .int (nI q)), (4, .int (nI ((bitsTo (uP σ p q) c) + (2 ^ c)))), (5, .int (nI c)), (6, .ref (b + 3 + c)), (7, .int (nI (k_now (σ.2.1 c))))] [.int (nI (k_paid (σ.2.1 c) q)), .int (nI c), .ref 66] (mm (up2 (up2 I1 64 c (nI (k_now (σ.2.1 c)))) 65 c (nI (k_now (σ.2.1 c)))) J t) _
      refine zA_ineg (z := (-(nI (k_paid (σ.2.1 c) q)))) dX5_weigh_79 rfl (rfl) ?_
      refine zV_iastore c dX5_weigh_80 rfl rfl rfl (by omega) (by decide)  ?_
      refine zV_goto (tgt := 135) dX5_weigh_81 rfl ?_
      refine zV_iinc (y := (nI (c + 1))) (lv' := [(0, .ref 61), (1, .ref b), (2, .int (nI p)), (3, .int (nI q)), (4, .int (nI ((bitsTo (uP σ p q) c) + (2 ^ c)))), (5, .int (nI (c + 1))), (6, .ref (b + 3 + c)), (7, .int (nI (k_now (σ.2.1 c))))]) dX5_weigh_135 rfl 5 rfl (nI_1 _) (by decide) rfl ?_
      refine zV_goto (tgt := 6) dX5_weigh_138 rfl ?_
      refine zV_keep (lv' := [(0, .ref 61), (1, .ref b), (2, .int (nI p)), (3, .int (nI q)), (4, .int (nI ((bitsTo (uP σ p q) c) + (2 ^ c)))), (5, .int (nI (c + 1)))]) [0, 1, 2, 3, 4, 5] rfl ?_
      have hu : (uP σ p q) c = true := decide_eq_true (by omega)
      rw [show bitsTo (uP σ p q) (c + 1) = ((bitsTo (uP σ p q) c) + (2 ^ c)) by simp [bitsTo, hu]] at ih
      exact ih _ ⟨fun i hi hu2 => by
          by_cases ei : i = c
          · subst ei; exact ⟨by rw [up2_ni (by decide), up2_ni (by decide), up2_same, wE, if_pos h37], by rw [up2_ni (by decide), up2_same, wL, if_pos h37], by rw [up2_same, wO, if_pos h37]⟩
          · rw [up2_ni (show 64 ≠ 66 by decide), up2_ni (show 64 ≠ 65 by decide), up2_nk ei, up2_ni (show 65 ≠ 66 by decide), up2_nk ei, up2_ni (show 65 ≠ 64 by decide), up2_nk ei, up2_ni (show 66 ≠ 65 by decide), up2_ni (show 66 ≠ 64 by decide)]; exact h1.1 i (by omega) hu2, fun i a b g => by rw [← h1.2 i a b g]; funext k; rw [up2_ni g, up2_ni b, up2_ni a]⟩
