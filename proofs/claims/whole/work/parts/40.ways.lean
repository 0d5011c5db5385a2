/-! ways: both classes; can of the reference -/
set_option maxRecDepth 100000 in
theorem m_liesOther {G : mG} {I : Nat → Nat → Int32} {J : Nat → Nat → Int64} {t : Nat} {B : Nat} {σ : aL} (hR : absR I 77 σ) (hW : wfL B σ) {t' : Nat} (ht : t' < 2 ^ 31) : zC G yX7_liesOtherwise (eX7_liesOtherwise (g_rmv 1)) [.ref 76, .int (nI t')] (mm I J t) (fun r M => ∃ I', r = none ∧ M = mm I' J t ∧ absR I' 77 (ld_flip σ t') ∧ frM I I') := by
  refine zC_of (by decide +kernel) rfl (by decide) (Nat.le_of_ble_eq_true rfl) ?_
  have n10 := hW.1
  show zV G (eX7_liesOtherwise (g_rmv 1)) (0, 0) 0 [(0, .ref 76), (1, .int (nI t'))] [] (mm I J t) _
  refine zV_iconst (v := (nI 0)) dX7_liesOtherwise_0 rfl rfl ?_
  refine zV_istore_n (lv' := [(0, .ref 76), (1, .int (nI t')), (2, .int (nI 0))]) dX7_liesOtherwise_1 rfl rfl (by decide) rfl ?_
  refine z_for (fun c => ∀ (I1 : Nat → Nat → Int32), (absR I1 77 (ld_flipN σ t' c) ∧ frM I I1) → zV G (eX7_liesOtherwise (g_rmv 1)) (0, 0) 2 [(0, .ref 76), (1, .int (nI t')), (2, .int (nI c))] [] (mm I1 J t) _) σ.1 ?_ ?_ 0 (Nat.zero_le _) I ⟨by rw [ld_flipN_0]; exact hR, frM.rf⟩
  · intro I1 h1
    refine zV_iload_n dX7_liesOtherwise_2 rfl 2 rfl rfl ?_
    refine zV_aload_n dX7_liesOtherwise_3 rfl 0 rfl rfl ?_
    refine zV_getr (q' := 77) 0 dX7_liesOtherwise_4 rfl fl_RX7_9 rfl (by decide) rfl rfl ?_
    refine zV_iconst (v := (nI 1)) dX7_liesOtherwise_7 rfl rfl ?_
    refine zV_iald (x := (nI σ.1)) 1 dX7_liesOtherwise_8 rfl rfl rfl (by decide) (by decide) h1.1.2.1 ?_
    refine zN_icmp_ge (tgt := 36) dX7_liesOtherwise_9 rfl rfl (by omega) (by omega) (fun _ => ?_) (fun z => absurd z (by omega))
    exact zV_return dX7_liesOtherwise_36 rfl (⟨I1, rfl, rfl, h1.1, h1.2⟩)
  · intro c hc ih
    intro I1 h1
    have w4 := (hW.2.1 c hc).2.2.2.2.1
    refine zV_iload_n dX7_liesOtherwise_2 rfl 2 rfl rfl ?_
    refine zV_aload_n dX7_liesOtherwise_3 rfl 0 rfl rfl ?_
    refine zV_getr (q' := 77) 0 dX7_liesOtherwise_4 rfl fl_RX7_9 rfl (by decide) rfl rfl ?_
    refine zV_iconst (v := (nI 1)) dX7_liesOtherwise_7 rfl rfl ?_
    refine zV_iald (x := (nI σ.1)) 1 dX7_liesOtherwise_8 rfl rfl rfl (by decide) (by decide) h1.1.2.1 ?_
    refine zN_icmp_ge (tgt := 36) dX7_liesOtherwise_9 rfl rfl (by omega) (by omega) (fun z => absurd z (by omega)) (fun _ => ?_)
    refine zV_aload_n dX7_liesOtherwise_12 rfl 0 rfl rfl ?_
    refine zV_getr (q' := 77) 0 dX7_liesOtherwise_13 rfl fl_RX7_9 rfl (by decide) rfl rfl ?_
    refine zV_iload_n dX7_liesOtherwise_16 rfl 2 rfl rfl ?_
    refine zV_iconst (v := (nI 4)) dX7_liesOtherwise_17 rfl rfl ?_
    refine zV_callS (E' := eX7_at (g_rmv 0)) (av := [.int (nI c), .int (nI 4)]) (st := [.ref 77]) dX7_liesOtherwise_18 rfl (k_RX7_80 _) rfl ⟨by decide, by decide⟩ ⟨by decide, by decide⟩ (Or.inl rfl) rfl (Nat.le_of_ble_eq_true rfl) (m_at (c := c) (f := 4)) (fun r18 M18 z => ?_)
    obtain ⟨rfl, rfl⟩ := z
    show zV G (eX7_liesOtherwise (g_rmv 1)) (0, 0) 21 [(0, .ref 76), (1, .int (nI t')), (2, .int (nI c))] [.int (nI (13 + 6 * c + 4)), .ref 77] (mm I1 J t) _
    refine zV_dup2 dX7_liesOtherwise_21 rfl rfl rfl ?_
    refine zV_iald (x := (nI (σ.2.1 c 4))) (13 + 6 * c + 4) dX7_liesOtherwise_22 rfl rfl rfl (by omega) (by decide) (by have h9 := h1.1.2.2.2.2 c hc 4 (by decide); rw [ld_flipN_at] at h9; exact h9) ?_
    refine zV_iload_n dX7_liesOtherwise_23 rfl 1 rfl rfl ?_
    refine zV_iload_n dX7_liesOtherwise_24 rfl 2 rfl rfl ?_
    refine zA_ishr (z := (nI t' >>> (nI c &&& 31))) dX7_liesOtherwise_25 rfl  (rfl) ?_
    refine zV_iconst (v := (nI 1)) dX7_liesOtherwise_26 rfl rfl ?_
    refine zA_iand (z := (nI (t' / 2 ^ c % 2))) dX7_liesOtherwise_27 rfl  (z_bit ht (by omega)) ?_
    refine zA_ixor (z := (nI (if t' / 2 ^ c % 2 = 1 then 1 - σ.2.1 c 4 else σ.2.1 c 4))) dX7_liesOtherwise_28 rfl  (z_xor1 w4 (Nat.mod_lt _ (by decide))) ?_
    refine zV_iastore (13 + 6 * c + 4) dX7_liesOtherwise_29 rfl rfl rfl (by omega) (by decide)  ?_
    refine zV_iinc (y := (nI (c + 1))) (lv' := [(0, .ref 76), (1, .int (nI t')), (2, .int (nI (c + 1)))]) dX7_liesOtherwise_30 rfl 2 rfl (nI_1 _) (by decide) rfl ?_
    refine zV_goto (tgt := 2) dX7_liesOtherwise_33 rfl ?_
    exact ih _ ⟨by
        have h9 := h1.1.set (c := c) (f := 4) (v := if t' / 2 ^ c % 2 = 1 then 1 - σ.2.1 c 4 else σ.2.1 c 4) (by decide)
        rw [ld_flipN_at] at h9
        by_cases eb : t'.testBit c = true
        · rw [if_pos ((z_tb _ _).mpr eb)] at h9 ⊢; rw [ld_flipN_t eb]; exact h9
        · rw [if_neg (fun z => eb ((z_tb _ _).mp z))] at h9 ⊢; rw [ld_flipN_f eb]; refine h9.congr rfl (fun c' hc' f hf => ?_) rfl; show (ld_flipN σ t' c).2.1 c' f = (if c' = c then k_set (σ.2.1 c) 4 (σ.2.1 c 4) else (ld_flipN σ t' c).2.1 c') f; by_cases ec : c' = c; (· subst ec; rw [if_pos rfl, ld_flipN_at]; unfold k_set; by_cases e4 : f = 4; (· subst e4; rw [if_pos rfl]); (· rw [if_neg e4])); (· rw [if_neg ec]), h1.2.tr frM.up⟩

set_option maxRecDepth 100000 in
theorem c_ways {G : mG} {I : Nat → Nat → Int32} {J : Nat → Nat → Int64} {t : Nat} {B : Nat} {σ : aL} (hA : absL I 1 σ) (hW : wfL B σ) {s v : Nat} (hsp : s < 2 ^ σ.1) (hv : v < 10000) : zC G yX5_waysWorth (eX5_waysWorth (g_rmv 4)) [.ref 61, .ref 1, .int (nI s), .int (nI v)] (mm I J t) (fun r M => ∃ I', r = some (.int (nI (ld_ways σ s v))) ∧ M = mm I' J t ∧ ∀ i, i ≠ 61 → i ≠ 62 → i ≠ 63 → i ≠ 64 → I' i = I i) := by
  refine zC_of (by decide +kernel) rfl (by decide) (Nat.le_of_ble_eq_true rfl) ?_
  have n10 := hW.1
  have p10 := z_p10 n10
  have hs : s < 1024 := Nat.lt_of_lt_of_le hsp p10
  have hsn : ∀ c, s.testBit c = true → c < σ.1 := fun c hb => set_bit hsp hb
  show zV G (eX5_waysWorth (g_rmv 4)) (0, 0) 0 [(0, .ref 61), (1, .ref 1), (2, .int (nI s)), (3, .int (nI v))] [] (mm I J t) _
  refine zV_iconst (v := (nI 0)) dX5_waysWorth_0 rfl rfl ?_
  refine zV_istore (lv' := [(0, .ref 61), (1, .ref 1), (2, .int (nI s)), (3, .int (nI v)), (4, .int (nI 0))]) dX5_waysWorth_1 rfl (by decide) rfl ?_
  refine z_for (fun c => ∀ (I1 : Nat → Nat → Int32), ((∀ i, i < c → I1 64 i = (eW σ) i) ∧ ∀ i, i ≠ 64 → I1 i = I i) → zV G (eX5_waysWorth (g_rmv 4)) (0, 0) 3 [(0, .ref 61), (1, .ref 1), (2, .int (nI s)), (3, .int (nI v)), (4, .int (nI c))] [] (mm I1 J t) _) σ.1 ?_ ?_ 0 (Nat.zero_le _) I ⟨fun i h => absurd h (Nat.not_lt_zero _), fun _ _ => rfl⟩
  · intro I1 h1
    refine zV_iload dX5_waysWorth_3 rfl 4 rfl ?_
    refine zV_aload_n dX5_waysWorth_5 rfl 1 rfl rfl ?_
    refine zV_getI (x := (nI σ.1)) 2 dX5_waysWorth_6 rfl fl_RX5_40 (sh_land (Or.inl rfl)) (by decide) rfl (by rw [h1.2 1 (by decide)]; exact hA.1) ?_
    refine zN_icmp_ge (tgt := 46) dX5_waysWorth_9 rfl rfl (by omega) (by omega) (fun _ => ?_) (fun z => absurd z (by omega))
    refine zV_aload_n dX5_waysWorth_46 rfl 0 rfl rfl ?_
    refine zV_iload_n dX5_waysWorth_47 rfl 2 rfl rfl ?_
    refine zV_callV (E' := eX5_listSets (g_rmv 1)) (av := [.int (nI s)]) (st := []) (b := 61) dX5_waysWorth_48 rfl (k_RX5_55 _) rfl ⟨by decide, by decide⟩ ⟨by decide, by decide⟩ (Or.inl rfl) rfl (Nat.le_of_ble_eq_true rfl) rfl rfl rfl (c_listSets (s := s) (e := (eW σ)) (by omega) (fun c _ hb => h1.1 c (hsn c hb))) (fun r48 M48 z => ?_)
    obtain ⟨I48, rfl, rfl, hN48, hL48, hF48⟩ := z
    have hA48 : absL I48 1 σ := hA.mv n10 (fun i a b => by rw [hF48 i (by omega) (by omega) (by omega), h1.2 i (by omega)])
    show zV G (eX5_waysWorth (g_rmv 4)) (0, 0) 51 [(0, .ref 61), (1, .ref 1), (2, .int (nI s)), (3, .int (nI v)), (4, .int (nI σ.1))] [] (mm I48 J t) _
    refine zV_iload_n dX5_waysWorth_51 rfl 3 rfl rfl ?_
    refine zV_aload_n dX5_waysWorth_52 rfl 1 rfl rfl ?_
    refine zV_iload_n dX5_waysWorth_53 rfl 2 rfl rfl ?_
    refine zV_callV (E' := eX1_worthOf (g_rmv 3)) (av := [.int (nI s)]) (st := [.int (nI v)]) (b := 1) dX5_waysWorth_54 rfl (k_RX5_62 _) rfl ⟨by decide, by decide⟩ ⟨by decide, by decide⟩ (Or.inl rfl) rfl (Nat.le_of_ble_eq_true rfl) (sh_land (Or.inl rfl)) rfl rfl (c_worthOf (s := s) (Or.inl rfl) hA48 hW (by omega)) (fun r54 M54 z => ?_)
    obtain ⟨rfl, rfl⟩ := z
    show zV G (eX5_waysWorth (g_rmv 4)) (0, 0) 57 [(0, .ref 61), (1, .ref 1), (2, .int (nI s)), (3, .int (nI v)), (4, .int (nI σ.1))] [.int (nI (ld_sum σ s)), .int (nI v)] (mm I48 J t) _
    refine zA_isub (z := ((nI v) - (nI (ld_sum σ s)))) dX5_waysWorth_57 rfl  (rfl) ?_
    refine zV_istore (lv' := [(0, .ref 61), (1, .ref 1), (2, .int (nI s)), (3, .int (nI v)), (4, .int ((nI v) - (nI (ld_sum σ s))))]) dX5_waysWorth_58 rfl (by decide) rfl ?_
    refine zV_iconst (v := (nI 0)) dX5_waysWorth_60 rfl rfl ?_
    refine zV_istore (lv' := [(0, .ref 61), (1, .ref 1), (2, .int (nI s)), (3, .int (nI v)), (4, .int ((nI v) - (nI (ld_sum σ s)))), (5, .int (nI 0))]) dX5_waysWorth_61 rfl (by decide) rfl ?_
    refine zV_iconst (v := (nI 0)) dX5_waysWorth_63 rfl rfl ?_
    refine zV_istore (lv' := [(0, .ref 61), (1, .ref 1), (2, .int (nI s)), (3, .int (nI v)), (4, .int ((nI v) - (nI (ld_sum σ s)))), (5, .int (nI 0)), (6, .int (nI 0))]) dX5_waysWorth_64 rfl (by decide) rfl ?_
    have sl := slc_le s 10
    refine z_for (fun i => zV G (eX5_waysWorth (g_rmv 4)) (0, 0) 66 [(0, .ref 61), (1, .ref 1), (2, .int (nI s)), (3, .int (nI v)), (4, .int (nI v - nI (ld_sum σ s))), (5, .int (nI (fc (fun n t => if v ≤ ld_sum (ld_flip σ t) s then n + 1 else n) 0 (slf s 10) i))), (6, .int (nI i))] [] (mm I48 J t) _) (slc s 10) ?_ ?_ 0 (Nat.zero_le _)
    · skip
      refine zV_iload dX5_waysWorth_66 rfl 6 rfl ?_
      refine zV_aload_n dX5_waysWorth_68 rfl 0 rfl rfl ?_
      refine zV_getI (x := (nI (slc s 10))) 2 dX5_waysWorth_69 rfl fl_RX5_18 rfl (by decide) rfl hN48 ?_
      refine zN_icmp_ge (tgt := 96) dX5_waysWorth_72 rfl rfl (by omega) (by omega) (fun _ => ?_) (fun z => absurd z (by omega))
      refine zV_iload dX5_waysWorth_96 rfl 5 rfl ?_
      exact zV_ireturn dX5_waysWorth_98 rfl rfl (⟨_, by rw [ld_ways_c hs], rfl, fun i a b g d => by rw [hF48 i a b g, h1.2 i d]⟩)
    · intro i hi ih
      have hws := ways_iff (v := v) hW (slf_sub s 10 i hi) hsp hv
      refine zV_iload dX5_waysWorth_66 rfl 6 rfl ?_
      refine zV_aload_n dX5_waysWorth_68 rfl 0 rfl rfl ?_
      refine zV_getI (x := (nI (slc s 10))) 2 dX5_waysWorth_69 rfl fl_RX5_18 rfl (by decide) rfl hN48 ?_
      refine zN_icmp_ge (tgt := 96) dX5_waysWorth_72 rfl rfl (by omega) (by omega) (fun z => absurd z (by omega)) (fun _ => ?_)
      refine zV_aload_n dX5_waysWorth_75 rfl 0 rfl rfl ?_
      refine zV_getr (q' := 63) 1 dX5_waysWorth_76 rfl fl_RX5_15 rfl (by decide) rfl rfl ?_
      refine zV_iload dX5_waysWorth_79 rfl 6 rfl ?_
      refine zV_iald (x := (tsm (eW σ) (slf s 10 i) 10)) i dX5_waysWorth_81 rfl rfl rfl (by omega) (by decide) ((hL48 i hi).2) ?_
      refine zV_iload dX5_waysWorth_82 rfl 4 rfl ?_
      refine zV_icmp_lt (tgt := 90) dX5_waysWorth_84 rfl rfl  (fun h84 => ?_) (fun h84 => ?_)
      · have hle := fun z => (Int32.not_le.mpr h84) (hws.mpr z)
        refine zV_iinc (y := (nI (i + 1))) (lv' := [(0, .ref 61), (1, .ref 1), (2, .int (nI s)), (3, .int (nI v)), (4, .int (nI v - nI (ld_sum σ s))), (5, .int (nI (fc (fun n t => if v ≤ ld_sum (ld_flip σ t) s then n + 1 else n) 0 (slf s 10) i))), (6, .int (nI (i + 1)))]) dX5_waysWorth_90 rfl 6 rfl (nI_1 _) (by decide) rfl ?_
        refine zV_goto (tgt := 66) dX5_waysWorth_93 rfl ?_
        rw [show fc (fun n t => if v ≤ ld_sum (ld_flip σ t) s then n + 1 else n) 0 (slf s 10) (i + 1) = (fc (fun n t => if v ≤ ld_sum (ld_flip σ t) s then n + 1 else n) 0 (slf s 10) i) from if_neg hle] at ih
        exact ih
      · have hle := hws.mp (Int32.not_lt.mp h84)
        refine zV_iinc (y := (nI ((fc (fun n t => if v ≤ ld_sum (ld_flip σ t) s then n + 1 else n) 0 (slf s 10) i) + 1))) (lv' := [(0, .ref 61), (1, .ref 1), (2, .int (nI s)), (3, .int (nI v)), (4, .int (nI v - nI (ld_sum σ s))), (5, .int (nI ((fc (fun n t => if v ≤ ld_sum (ld_flip σ t) s then n + 1 else n) 0 (slf s 10) i) + 1))), (6, .int (nI i))]) dX5_waysWorth_87 rfl 5 rfl (nI_1 _) (by decide) rfl ?_
        refine zV_iinc (y := (nI (i + 1))) (lv' := [(0, .ref 61), (1, .ref 1), (2, .int (nI s)), (3, .int (nI v)), (4, .int (nI v - nI (ld_sum σ s))), (5, .int (nI ((fc (fun n t => if v ≤ ld_sum (ld_flip σ t) s then n + 1 else n) 0 (slf s 10) i) + 1))), (6, .int (nI (i + 1)))]) dX5_waysWorth_90 rfl 6 rfl (nI_1 _) (by decide) rfl ?_
        refine zV_goto (tgt := 66) dX5_waysWorth_93 rfl ?_
        rw [show fc (fun n t => if v ≤ ld_sum (ld_flip σ t) s then n + 1 else n) 0 (slf s 10) (i + 1) = ((fc (fun n t => if v ≤ ld_sum (ld_flip σ t) s then n + 1 else n) 0 (slf s 10) i) + 1) from if_pos hle] at ih
        exact ih
  · intro c hc ih
    intro I1 h1
    refine zV_iload dX5_waysWorth_3 rfl 4 rfl ?_
    refine zV_aload_n dX5_waysWorth_5 rfl 1 rfl rfl ?_
    refine zV_getI (x := (nI σ.1)) 2 dX5_waysWorth_6 rfl fl_RX5_40 (sh_land (Or.inl rfl)) (by decide) rfl (by rw [h1.2 1 (by decide)]; exact hA.1) ?_
    refine zN_icmp_ge (tgt := 46) dX5_waysWorth_9 rfl rfl (by omega) (by omega) (fun z => absurd z (by omega)) (fun _ => ?_)
    refine zV_aload_n dX5_waysWorth_12 rfl 0 rfl rfl ?_
    refine zV_getr (q' := 64) 3 dX5_waysWorth_13 rfl fl_RX5_22 rfl (by decide) rfl rfl ?_
    refine zV_iload dX5_waysWorth_16 rfl 4 rfl ?_
    refine zV_aload_n dX5_waysWorth_18 rfl 1 rfl rfl ?_
    refine zV_getrX (q' := (1 + 1)) 0 dX5_waysWorth_19 rfl fl_RX5_45 (sh_land (Or.inl rfl)) (by decide) rfl (R_coins (Or.inl rfl)) ?_
    refine zV_iload dX5_waysWorth_22 rfl 4 rfl ?_
    refine zV_aaload (q' := (1 + 3 + c)) c dX5_waysWorth_24 rfl (sh_coins (Or.inl rfl)) rfl (by decide) rfl (by omega) (by decide) (R_coin (Or.inl rfl) (by omega)) ?_
    refine zV_callV (E' := eX0_worthOtherWay (g_rmv 2)) (av := []) (st := [.int (nI c), .ref 64]) (b := (1 + 3 + c)) dX5_waysWorth_25 rfl (k_RX5_59 _) rfl ⟨by decide, by decide⟩ ⟨by decide, by decide⟩ (Or.inl rfl) rfl (Nat.le_of_ble_eq_true rfl) (sh_coin (Or.inl rfl) (by omega)) rfl rfl (c_worthOther (sh_coin (Or.inl rfl) (by omega)) (fun f hf => by rw [h1.2 (1 + 3 + c) (by omega)]; exact hA.2.1 c hc f hf) (hW.2.1 c hc)) (fun r25 M25 z => ?_)
    obtain ⟨rfl, rfl⟩ := z
    show zV G (eX5_waysWorth (g_rmv 4)) (0, 0) 28 [(0, .ref 61), (1, .ref 1), (2, .int (nI s)), (3, .int (nI v)), (4, .int (nI c))] [.int (nI (k_oth (σ.2.1 c))), .int (nI c), .ref 64] (mm I1 J t) _
    refine zV_aload_n dX5_waysWorth_28 rfl 1 rfl rfl ?_
    refine zV_getrX (q' := (1 + 1)) 0 dX5_waysWorth_29 rfl fl_RX5_45 (sh_land (Or.inl rfl)) (by decide) rfl (R_coins (Or.inl rfl)) ?_
    refine zV_iload dX5_waysWorth_32 rfl 4 rfl ?_
    refine zV_aaload (q' := (1 + 3 + c)) c dX5_waysWorth_34 rfl (sh_coins (Or.inl rfl)) rfl (by decide) rfl (by omega) (by decide) (R_coin (Or.inl rfl) (by omega)) ?_
    refine zV_callV (E' := eX0_worthNow (g_rmv 2)) (av := []) (st := [.int (nI (k_oth (σ.2.1 c))), .int (nI c), .ref 64]) (b := (1 + 3 + c)) dX5_waysWorth_35 rfl (k_RX5_49 _) rfl ⟨by decide, by decide⟩ ⟨by decide, by decide⟩ (Or.inl rfl) rfl (Nat.le_of_ble_eq_true rfl) (sh_coin (Or.inl rfl) (by omega)) rfl rfl (c_worthNow (sh_coin (Or.inl rfl) (by omega)) (fun f hf => by rw [h1.2 (1 + 3 + c) (by omega)]; exact hA.2.1 c hc f hf) (hW.2.1 c hc)) (fun r35 M35 z => ?_)
    obtain ⟨rfl, rfl⟩ := z
    show zV G (eX5_waysWorth (g_rmv 4)) (0, 0) 38 [(0, .ref 61), (1, .ref 1), (2, .int (nI s)), (3, .int (nI v)), (4, .int (nI c))] [.int (nI (k_now (σ.2.1 c))), .int (nI (k_oth (σ.2.1 c))), .int (nI c), .ref 64] (mm I1 J t) _
    refine zA_isub (z := ((nI (k_oth (σ.2.1 c))) - (nI (k_now (σ.2.1 c))))) dX5_waysWorth_38 rfl  (rfl) ?_
    refine zV_iastore c dX5_waysWorth_39 rfl rfl rfl (by omega) (by decide)  ?_
    refine zV_iinc (y := (nI (c + 1))) (lv' := [(0, .ref 61), (1, .ref 1), (2, .int (nI s)), (3, .int (nI v)), (4, .int (nI (c + 1)))]) dX5_waysWorth_40 rfl 4 rfl (nI_1 _) (by decide) rfl ?_
    refine zV_goto (tgt := 3) dX5_waysWorth_43 rfl ?_
    exact ih _ ⟨fun i hi => by
        by_cases ei : i = c
        · rw [ei, up2_same] <;> rfl
        · rw [up2_nk ei]; exact h1.1 i (by omega), fun i hi => by rw [← h1.2 i hi]; funext k; exact up2_ni hi⟩

set_option maxRecDepth 100000 in
theorem p_ways {G : mG} {I : Nat → Nat → Int32} {J : Nat → Nat → Int64} {t : Nat} {B : Nat} {S : aS} (hC : InvC I S) (hw : wfS B S) {x y : Int32} : zC G yX6_ways (eX6_ways (g_rmv 5)) [.ref 0, .int x, .int y] (mm I J t) (fun r M => PC I (op_ways S x y) r M) := by
  refine zC_of (by decide +kernel) rfl (by decide) (Nat.le_of_ble_eq_true rfl) ?_
  have n10 := hw.1.1
  show zV G (eX6_ways (g_rmv 5)) (0, 0) 0 [(0, .ref 0), (1, .int x), (2, .int y)] [] (mm I J t) _
  refine zV_iload_n dX6_ways_0 rfl 1 rfl rfl ?_
  refine zV_callS (E' := eX6_isPurse (g_rmv 1)) (av := [.int x]) (st := []) dX6_ways_1 rfl (k_RX6_124 _) rfl ⟨by decide, by decide⟩ ⟨by decide, by decide⟩ (Or.inl rfl) rfl (Nat.le_of_ble_eq_true rfl) (c_isPurse (x := x)) (fun r1 M1 z => ?_)
  obtain ⟨rfl, rfl⟩ := z
  show zV G (eX6_ways (g_rmv 5)) (0, 0) 4 [(0, .ref 0), (1, .int x), (2, .int y)] [.int (b2 (inR x 3))] (mm I J t) _
  refine zB_if_eq (tgt := 17) dX6_ways_4 rfl rfl  (fun h4 => ?_) (fun h4 => ?_)
  · refine zV_aload_n dX6_ways_17 rfl 0 rfl rfl ?_
    refine zV_ldc (v := (-1000001)) dX6_ways_18 rfl tw264 ?_
    refine zV_callV (E' := eX6_tell (g_rmv 1)) (av := [.int (-1000001)]) (st := []) (b := 0) dX6_ways_20 rfl (k_RX6_70 _) rfl ⟨by decide, by decide⟩ ⟨by decide, by decide⟩ (Or.inl rfl) rfl (Nat.le_of_ble_eq_true rfl) rfl rfl rfl (c_tell (w := 0) (by decide) (by decide)) (fun r20 M20 z => ?_)
    obtain ⟨rfl, rfl⟩ := z
    show zV G (eX6_ways (g_rmv 5)) (0, 0) 23 [(0, .ref 0), (1, .int x), (2, .int y)] [.int (fdg 0)] (mm (up2 I 67 0 (I 67 0 + nI 1)) J t) _
    exact zV_ireturn dX6_ways_23 rfl rfl (PC.tell hC hw (by unfold op_ways; rw [if_neg h4]) (fun _ _ => rfl))
  · refine zV_iload_n dX6_ways_7 rfl 2 rfl rfl ?_
    refine zV_sipush (v := (nI 9999)) dX6_ways_8 rfl rfl ?_
    refine zV_callS (E' := eX6_isWithin (g_rmv 0)) (av := [.int y, .int (nI 9999)]) (st := []) dX6_ways_11 rfl (k_RX6_65 _) rfl ⟨by decide, by decide⟩ ⟨by decide, by decide⟩ (Or.inl rfl) rfl (Nat.le_of_ble_eq_true rfl) (c_isWithin (x := y) (y := (nI 9999))) (fun r11 M11 z => ?_)
    obtain ⟨rfl, rfl⟩ := z
    show zV G (eX6_ways (g_rmv 5)) (0, 0) 14 [(0, .ref 0), (1, .int x), (2, .int y)] [.int (b2 (0 ≤ y ∧ y ≤ (nI 9999)))] (mm I J t) _
    refine zB_if_ne (tgt := 24) dX6_ways_14 rfl rfl  (fun h14 => ?_) (fun h14 => ?_)
    · obtain ⟨p, hp, rfl⟩ := (inR_iff (by decide)).mp h4
      obtain ⟨v, hv, rfl⟩ := (inR_iff (by decide)).mp h14
      refine zV_aload_n dX6_ways_24 rfl 0 rfl rfl ?_
      refine zV_getr (q' := 61) 9 dX6_ways_25 rfl fl_RX6_57 rfl (by decide) rfl rfl ?_
      refine zV_aload_n dX6_ways_28 rfl 0 rfl rfl ?_
      refine zV_getr (q' := 1) 0 dX6_ways_29 rfl fl_RX6_12 rfl (by decide) rfl rfl ?_
      refine zV_aload_n dX6_ways_32 rfl 0 rfl rfl ?_
      refine zV_getr (q' := 1) 0 dX6_ways_33 rfl fl_RX6_12 rfl (by decide) rfl rfl ?_
      refine zV_iload_n dX6_ways_36 rfl 1 rfl rfl ?_
      refine zV_callV (E' := eX1_coinsIn (g_rmv 0)) (av := [.int (nI p)]) (st := [.ref 1, .ref 61]) (b := 1) dX6_ways_37 rfl (k_RX6_127 _) rfl ⟨by decide, by decide⟩ ⟨by decide, by decide⟩ (Or.inl rfl) rfl (Nat.le_of_ble_eq_true rfl) (sh_land (Or.inl rfl)) rfl rfl (c_coinsIn (p := p) (Or.inl rfl) hC.1 hw.1 (by omega)) (fun r37 M37 z => ?_)
      obtain ⟨rfl, rfl⟩ := z
      show zV G (eX6_ways (g_rmv 5)) (0, 0) 40 [(0, .ref 0), (1, .int (nI p)), (2, .int (nI v))] [.int (nI (ld_in S.1 p)), .ref 1, .ref 61] (mm I J t) _
      refine zV_iload_n dX6_ways_40 rfl 2 rfl rfl ?_
      refine zV_callV (E' := eX5_waysWorth (g_rmv 4)) (av := [.ref 1, .int (nI (ld_in S.1 p)), .int (nI v)]) (st := []) (b := 61) dX6_ways_41 rfl (k_RX6_221 _) rfl ⟨by decide, by decide⟩ ⟨by decide, by decide⟩ (Or.inl rfl) rfl (Nat.le_of_ble_eq_true rfl) rfl rfl rfl (c_ways (s := (ld_in S.1 p)) (v := v) hC.1 hw.1 (ld_in_p _ _) (by omega)) (fun r41 M41 z => ?_)
      obtain ⟨I41, rfl, rfl, hF41⟩ := z
      show zV G (eX6_ways (g_rmv 5)) (0, 0) 44 [(0, .ref 0), (1, .int (nI p)), (2, .int (nI v))] [.int (nI (ld_ways S.1 (ld_in S.1 p) v))] (mm I41 J t) _
      exact zV_ireturn dX6_ways_44 rfl rfl (PC.same hC hw (by unfold op_ways; rw [if_pos h4, if_pos h14, tn_nI (show p < 2 ^ 31 by omega), tn_nI (show v < 2 ^ 31 by omega)]) (fun i hi => hF41 i (by unfold scr at hi; omega) (by unfold scr at hi; omega) (by unfold scr at hi; omega) (by unfold scr at hi; omega)))
    · refine zV_aload_n dX6_ways_17 rfl 0 rfl rfl ?_
      refine zV_ldc (v := (-1000001)) dX6_ways_18 rfl tw264 ?_
      refine zV_callV (E' := eX6_tell (g_rmv 1)) (av := [.int (-1000001)]) (st := []) (b := 0) dX6_ways_20 rfl (k_RX6_70 _) rfl ⟨by decide, by decide⟩ ⟨by decide, by decide⟩ (Or.inl rfl) rfl (Nat.le_of_ble_eq_true rfl) rfl rfl rfl (c_tell (w := 0) (by decide) (by decide)) (fun r20 M20 z => ?_)
      obtain ⟨rfl, rfl⟩ := z
      show zV G (eX6_ways (g_rmv 5)) (0, 0) 23 [(0, .ref 0), (1, .int x), (2, .int y)] [.int (fdg 0)] (mm (up2 I 67 0 (I 67 0 + nI 1)) J t) _
      exact zV_ireturn dX6_ways_23 rfl rfl (PC.tell hC hw (by unfold op_ways; rw [if_pos h4, if_neg h14]) (fun _ _ => rfl))

set_option maxRecDepth 100000 in
theorem q_ways {G : mG} {I : Nat → Nat → Int32} {J : Nat → Nat → Int64} {t : Nat} {B : Nat} {S : aS} (hM : InvM I S) (hw : wfS B S) {x y : Int32} : zC G yX7_ways (eX7_ways (g_rmv 5)) [.ref 76, .int x, .int y] (mm I J t) (fun r M => PM I (op_ways S x y) r M) := by
  refine zC_of (by decide +kernel) rfl (by decide) (Nat.le_of_ble_eq_true rfl) ?_
  have n10 := hw.1.1
  show zV G (eX7_ways (g_rmv 5)) (0, 0) 0 [(0, .ref 76), (1, .int x), (2, .int y)] [] (mm I J t) _
  refine zV_iload_n dX7_ways_0 rfl 1 rfl rfl ?_
  refine zV_callS (E' := eX7_isPurse (g_rmv 1)) (av := [.int x]) (st := []) dX7_ways_1 rfl (k_RX7_76 _) rfl ⟨by decide, by decide⟩ ⟨by decide, by decide⟩ (Or.inl rfl) rfl (Nat.le_of_ble_eq_true rfl) (m_isPurse (x := x)) (fun r1 M1 z => ?_)
  obtain ⟨rfl, rfl⟩ := z
  show zV G (eX7_ways (g_rmv 5)) (0, 0) 4 [(0, .ref 76), (1, .int x), (2, .int y)] [.int (b2 (inR x 3))] (mm I J t) _
  refine zB_if_eq (tgt := 18) dX7_ways_4 rfl rfl  (fun h4 => ?_) (fun h4 => ?_)
  · refine zV_aload_n dX7_ways_18 rfl 0 rfl rfl ?_
    refine zV_ldc (v := (-1000001)) dX7_ways_19 rfl tw970 ?_
    refine zV_callV (E' := eX7_finding (g_rmv 0)) (av := [.int (-1000001)]) (st := []) (b := 76) dX7_ways_21 rfl (k_RX7_87 _) rfl ⟨by decide, by decide⟩ ⟨by decide, by decide⟩ (Or.inl rfl) rfl (Nat.le_of_ble_eq_true rfl) rfl rfl rfl (m_finding (w := 0) (by decide) (by decide)) (fun r21 M21 z => ?_)
    obtain ⟨rfl, rfl⟩ := z
    show zV G (eX7_ways (g_rmv 5)) (0, 0) 24 [(0, .ref 76), (1, .int x), (2, .int y)] [.int (fdg 0)] (mm (mTell I 0) J t) _
    exact zV_ireturn dX7_ways_24 rfl rfl (PM.tell hM (by decide) (by unfold op_ways; rw [if_neg h4]) scM.rf)
  · refine zV_iload_n dX7_ways_7 rfl 2 rfl rfl ?_
    refine zV_iconst (v := (nI 0)) dX7_ways_8 rfl rfl ?_
    refine zV_sipush (v := (nI 9999)) dX7_ways_9 rfl rfl ?_
    refine zV_callS (E' := eX7_within (g_rmv 0)) (av := [.int y, .int (nI 0), .int (nI 9999)]) (st := []) dX7_ways_12 rfl (k_RX7_72 _) rfl ⟨by decide, by decide⟩ ⟨by decide, by decide⟩ (Or.inl rfl) rfl (Nat.le_of_ble_eq_true rfl) (m_within (x := y) (y := (nI 0)) (z := (nI 9999))) (fun r12 M12 z => ?_)
    obtain ⟨rfl, rfl⟩ := z
    show zV G (eX7_ways (g_rmv 5)) (0, 0) 15 [(0, .ref 76), (1, .int x), (2, .int y)] [.int (b2 (inR y 9999))] (mm I J t) _
    refine zB_if_ne (tgt := 25) dX7_ways_15 rfl rfl  (fun h15 => ?_) (fun h15 => ?_)
    · obtain ⟨p, hp, rfl⟩ := (inR_iff (by decide)).mp h4
      obtain ⟨v, hv, rfl⟩ := (inR_iff (by decide)).mp h15
      refine zV_aload_n dX7_ways_25 rfl 0 rfl rfl ?_
      refine zV_iload_n dX7_ways_26 rfl 1 rfl rfl ?_
      refine zV_callV (E' := eX7_setOf (g_rmv 2)) (av := [.int (nI p)]) (st := []) (b := 76) dX7_ways_27 rfl (k_RX7_139 _) rfl ⟨by decide, by decide⟩ ⟨by decide, by decide⟩ (Or.inl rfl) rfl (Nat.le_of_ble_eq_true rfl) rfl rfl rfl (m_setOf (p := p) hM.1 hw.1 (by omega)) (fun r27 M27 z => ?_)
      obtain ⟨rfl, rfl⟩ := z
      show zV G (eX7_ways (g_rmv 5)) (0, 0) 30 [(0, .ref 76), (1, .int (nI p)), (2, .int (nI v))] [.int (nI (ld_in S.1 p))] (mm I J t) _
      refine zV_istore_n (lv' := [(0, .ref 76), (1, .int (nI p)), (2, .int (nI v)), (3, .int (nI (ld_in S.1 p)))]) dX7_ways_30 rfl rfl (by decide) rfl ?_
      refine zV_iconst (v := (nI 0)) dX7_ways_31 rfl rfl ?_
      refine zV_istore (lv' := [(0, .ref 76), (1, .int (nI p)), (2, .int (nI v)), (3, .int (nI (ld_in S.1 p))), (4, .int (nI 0))]) dX7_ways_32 rfl (by decide) rfl ?_
      refine zV_iconst (v := (nI 0)) dX7_ways_34 rfl rfl ?_
      refine zV_istore (lv' := [(0, .ref 76), (1, .int (nI p)), (2, .int (nI v)), (3, .int (nI (ld_in S.1 p))), (4, .int (nI 0)), (5, .int (nI 0))]) dX7_ways_35 rfl (by decide) rfl ?_
      have hi1024 := ld_in_lt n10 p
      refine z_for (fun c => ∀ (I1 : Nat → Nat → Int32), (absR I1 77 S.1 ∧ frM I I1) → zV G (eX7_ways (g_rmv 5)) (0, 0) 37 [(0, .ref 76), (1, .int (nI p)), (2, .int (nI v)), (3, .int (nI (ld_in S.1 p))), (4, .int (nI (fo (fun n t => if v ≤ ld_sum (ld_flip S.1 t) (ld_in S.1 p) then n + 1 else n) 0 (ld_in S.1 p) c))), (5, .int (nI c))] [] (mm I1 J t) _) ((ld_in S.1 p) + 1) ?_ ?_ 0 (Nat.zero_le _) I ⟨hM.1, frM.rf⟩
      · intro I1 h1
        refine zV_iload dX7_ways_37 rfl 5 rfl ?_
        refine zV_iload_n dX7_ways_39 rfl 3 rfl rfl ?_
        refine zN_icmp_gt (tgt := 89) dX7_ways_40 rfl rfl (by omega) (by omega) (fun _ => ?_) (fun z => absurd z (by omega))
        refine zV_iload dX7_ways_89 rfl 4 rfl ?_
        exact zV_ireturn dX7_ways_91 rfl rfl (PM.land hM (by unfold op_ways; rw [if_pos h4, if_pos h15, tn_nI (show p < 2 ^ 31 by omega), tn_nI (show v < 2 ^ 31 by omega)]; rfl) scM.rf h1.1 h1.2)
      · intro c hc ih I1 h1
        have hct : fo (fun n t => if v ≤ ld_sum (ld_flip S.1 t) (ld_in S.1 p) then n + 1 else n) 0 (ld_in S.1 p) c ≤ c := fo_ct_le (p := fun t => v ≤ ld_sum (ld_flip S.1 t) (ld_in S.1 p)) c
        have hbi := ld_sum_le (wf_flipN hw.1 c S.1.1) (ld_in S.1 p)
        have hbi2 : ld_sum (ld_flip S.1 c) (ld_in S.1 p) ≤ 1000 := hbi
        refine zV_iload dX7_ways_37 rfl 5 rfl ?_
        refine zV_iload_n dX7_ways_39 rfl 3 rfl rfl ?_
        refine zN_icmp_gt (tgt := 89) dX7_ways_40 rfl rfl (by omega) (by omega) (fun z => absurd z (by omega)) (fun _ => ?_)
        refine zV_iload dX7_ways_43 rfl 5 rfl ?_
        refine zV_iload_n dX7_ways_45 rfl 3 rfl rfl ?_
        refine zV_iconst (v := (-1)) dX7_ways_46 rfl rfl ?_
        refine zA_ixor (z := ((nI (ld_in S.1 p)) ^^^ (-1))) dX7_ways_47 rfl  (rfl) ?_
        refine zA_iand (z := (nI c &&& (nI (ld_in S.1 p) ^^^ (-1)))) dX7_ways_48 rfl  (rfl) ?_
        refine zV_if_ne (tgt := 83) dX7_ways_49 rfl rfl  (fun h49 => ?_) (fun h49 => ?_)
        · have hnb := fun z => h49 ((z_sub (by omega) (by omega)).mpr z)
          refine zV_iinc (y := (nI (c + 1))) (lv' := [(0, .ref 76), (1, .int (nI p)), (2, .int (nI v)), (3, .int (nI (ld_in S.1 p))), (4, .int (nI (fo (fun n t => if v ≤ ld_sum (ld_flip S.1 t) (ld_in S.1 p) then n + 1 else n) 0 (ld_in S.1 p) c))), (5, .int (nI (c + 1)))]) dX7_ways_83 rfl 5 rfl (nI_1 _) (by decide) rfl ?_
          refine zV_goto (tgt := 37) dX7_ways_86 rfl ?_
          rw [show fo (fun n t => if v ≤ ld_sum (ld_flip S.1 t) (ld_in S.1 p) then n + 1 else n) 0 (ld_in S.1 p) (c + 1) = fo (fun n t => if v ≤ ld_sum (ld_flip S.1 t) (ld_in S.1 p) then n + 1 else n) 0 (ld_in S.1 p) c from if_neg hnb] at ih
          exact ih I1 h1
        · have hsb := (z_sub (by omega) (by omega)).mp h49
          refine zV_aload_n dX7_ways_52 rfl 0 rfl rfl ?_
          refine zV_iload dX7_ways_53 rfl 5 rfl ?_
          refine zV_callV (E' := eX7_liesOtherwise (g_rmv 1)) (av := [.int (nI c)]) (st := []) (b := 76) dX7_ways_55 rfl (k_RX7_214 _) rfl ⟨by decide, by decide⟩ ⟨by decide, by decide⟩ (Or.inl rfl) rfl (Nat.le_of_ble_eq_true rfl) rfl rfl rfl (m_liesOther (t' := c) h1.1 hw.1 (by omega)) (fun r55 M55 z => ?_)
          obtain ⟨I55, rfl, rfl, hR55, hF55⟩ := z
          have hW55 : wfL B (ld_flip S.1 c) := wf_flipN hw.1 _ _
          show zV G (eX7_ways (g_rmv 5)) (0, 0) 58 [(0, .ref 76), (1, .int (nI p)), (2, .int (nI v)), (3, .int (nI (ld_in S.1 p))), (4, .int (nI (fo (fun n t => if v ≤ ld_sum (ld_flip S.1 t) (ld_in S.1 p) then n + 1 else n) 0 (ld_in S.1 p) c))), (5, .int (nI c))] [] (mm I55 J t) _
          refine zV_iload dX7_ways_58 rfl 4 rfl ?_
          refine zV_aload_n dX7_ways_60 rfl 0 rfl rfl ?_
          refine zV_iload_n dX7_ways_61 rfl 3 rfl rfl ?_
          refine zV_callV (E' := eX7_sumOf (g_rmv 4)) (av := [.int (nI (ld_in S.1 p))]) (st := [.int (nI (fo (fun n t => if v ≤ ld_sum (ld_flip S.1 t) (ld_in S.1 p) then n + 1 else n) 0 (ld_in S.1 p) c))]) (b := 76) dX7_ways_62 rfl (k_RX7_142 _) rfl ⟨by decide, by decide⟩ ⟨by decide, by decide⟩ (Or.inl rfl) rfl (Nat.le_of_ble_eq_true rfl) rfl rfl rfl (m_sumOf (s := (ld_in S.1 p)) hR55 hW55 (by omega)) (fun r62 M62 z => ?_)
          obtain ⟨rfl, rfl⟩ := z
          show zV G (eX7_ways (g_rmv 5)) (0, 0) 65 [(0, .ref 76), (1, .int (nI p)), (2, .int (nI v)), (3, .int (nI (ld_in S.1 p))), (4, .int (nI (fo (fun n t => if v ≤ ld_sum (ld_flip S.1 t) (ld_in S.1 p) then n + 1 else n) 0 (ld_in S.1 p) c))), (5, .int (nI c))] [.int (nI (ld_sum (ld_flip S.1 c) (ld_in S.1 p))), .int (nI (fo (fun n t => if v ≤ ld_sum (ld_flip S.1 t) (ld_in S.1 p) then n + 1 else n) 0 (ld_in S.1 p) c))] (mm I55 J t) _
          refine zV_iload_n dX7_ways_65 rfl 2 rfl rfl ?_
          refine zN_icmp_lt (tgt := 73) dX7_ways_66 rfl rfl (by omega) (by omega) (fun h66 => ?_) (fun h66 => ?_)
          · skip
            refine zV_iconst (v := (nI 0)) dX7_ways_73 rfl rfl ?_
            refine zA_iadd (z := (nI (fo (fun n t => if v ≤ ld_sum (ld_flip S.1 t) (ld_in S.1 p) then n + 1 else n) 0 (ld_in S.1 p) c))) dX7_ways_74 rfl  (z_add0 _) ?_
            refine zV_istore (lv' := [(0, .ref 76), (1, .int (nI p)), (2, .int (nI v)), (3, .int (nI (ld_in S.1 p))), (4, .int (nI (fo (fun n t => if v ≤ ld_sum (ld_flip S.1 t) (ld_in S.1 p) then n + 1 else n) 0 (ld_in S.1 p) c))), (5, .int (nI c))]) dX7_ways_75 rfl (by decide) rfl ?_
            refine zV_aload_n dX7_ways_77 rfl 0 rfl rfl ?_
            refine zV_iload dX7_ways_78 rfl 5 rfl ?_
            refine zV_callV (E' := eX7_liesOtherwise (g_rmv 1)) (av := [.int (nI c)]) (st := []) (b := 76) dX7_ways_80 rfl (k_RX7_214 _) rfl ⟨by decide, by decide⟩ ⟨by decide, by decide⟩ (Or.inl rfl) rfl (Nat.le_of_ble_eq_true rfl) rfl rfl rfl (m_liesOther (t' := c) hR55 hW55 (by omega)) (fun r80 M80 z => ?_)
            obtain ⟨I80, rfl, rfl, hR80, hF80⟩ := z
            show zV G (eX7_ways (g_rmv 5)) (0, 0) 83 [(0, .ref 76), (1, .int (nI p)), (2, .int (nI v)), (3, .int (nI (ld_in S.1 p))), (4, .int (nI (fo (fun n t => if v ≤ ld_sum (ld_flip S.1 t) (ld_in S.1 p) then n + 1 else n) 0 (ld_in S.1 p) c))), (5, .int (nI c))] [] (mm I80 J t) _
            refine zV_iinc (y := (nI (c + 1))) (lv' := [(0, .ref 76), (1, .int (nI p)), (2, .int (nI v)), (3, .int (nI (ld_in S.1 p))), (4, .int (nI (fo (fun n t => if v ≤ ld_sum (ld_flip S.1 t) (ld_in S.1 p) then n + 1 else n) 0 (ld_in S.1 p) c))), (5, .int (nI (c + 1)))]) dX7_ways_83 rfl 5 rfl (nI_1 _) (by decide) rfl ?_
            refine zV_goto (tgt := 37) dX7_ways_86 rfl ?_
            rw [show fo (fun n t => if v ≤ ld_sum (ld_flip S.1 t) (ld_in S.1 p) then n + 1 else n) 0 (ld_in S.1 p) (c + 1) = (fo (fun n t => if v ≤ ld_sum (ld_flip S.1 t) (ld_in S.1 p) then n + 1 else n) 0 (ld_in S.1 p) c) from (if_pos hsb).trans (if_neg (Nat.not_le.mpr h66))] at ih
            exact ih I80 ⟨hR80.unflip hw.1, h1.2.tr (hF55.tr hF80)⟩
          · skip
            refine zV_iconst (v := (nI 1)) dX7_ways_69 rfl rfl ?_
            refine zV_goto (tgt := 74) dX7_ways_70 rfl ?_
            refine zA_iadd (z := (nI ((fo (fun n t => if v ≤ ld_sum (ld_flip S.1 t) (ld_in S.1 p) then n + 1 else n) 0 (ld_in S.1 p) c) + 1))) dX7_ways_74 rfl  (nI_add _ _) ?_
            refine zV_istore (lv' := [(0, .ref 76), (1, .int (nI p)), (2, .int (nI v)), (3, .int (nI (ld_in S.1 p))), (4, .int (nI ((fo (fun n t => if v ≤ ld_sum (ld_flip S.1 t) (ld_in S.1 p) then n + 1 else n) 0 (ld_in S.1 p) c) + 1))), (5, .int (nI c))]) dX7_ways_75 rfl (by decide) rfl ?_
            refine zV_aload_n dX7_ways_77 rfl 0 rfl rfl ?_
            refine zV_iload dX7_ways_78 rfl 5 rfl ?_
            refine zV_callV (E' := eX7_liesOtherwise (g_rmv 1)) (av := [.int (nI c)]) (st := []) (b := 76) dX7_ways_80 rfl (k_RX7_214 _) rfl ⟨by decide, by decide⟩ ⟨by decide, by decide⟩ (Or.inl rfl) rfl (Nat.le_of_ble_eq_true rfl) rfl rfl rfl (m_liesOther (t' := c) hR55 hW55 (by omega)) (fun r80 M80 z => ?_)
            obtain ⟨I80, rfl, rfl, hR80, hF80⟩ := z
            show zV G (eX7_ways (g_rmv 5)) (0, 0) 83 [(0, .ref 76), (1, .int (nI p)), (2, .int (nI v)), (3, .int (nI (ld_in S.1 p))), (4, .int (nI ((fo (fun n t => if v ≤ ld_sum (ld_flip S.1 t) (ld_in S.1 p) then n + 1 else n) 0 (ld_in S.1 p) c) + 1))), (5, .int (nI c))] [] (mm I80 J t) _
            refine zV_iinc (y := (nI (c + 1))) (lv' := [(0, .ref 76), (1, .int (nI p)), (2, .int (nI v)), (3, .int (nI (ld_in S.1 p))), (4, .int (nI ((fo (fun n t => if v ≤ ld_sum (ld_flip S.1 t) (ld_in S.1 p) then n + 1 else n) 0 (ld_in S.1 p) c) + 1))), (5, .int (nI (c + 1)))]) dX7_ways_83 rfl 5 rfl (nI_1 _) (by decide) rfl ?_
            refine zV_goto (tgt := 37) dX7_ways_86 rfl ?_
            rw [show fo (fun n t => if v ≤ ld_sum (ld_flip S.1 t) (ld_in S.1 p) then n + 1 else n) 0 (ld_in S.1 p) (c + 1) = ((fo (fun n t => if v ≤ ld_sum (ld_flip S.1 t) (ld_in S.1 p) then n + 1 else n) 0 (ld_in S.1 p) c) + 1) from (if_pos hsb).trans (if_pos h66)] at ih
            exact ih I80 ⟨hR80.unflip hw.1, h1.2.tr (hF55.tr hF80)⟩
    · refine zV_aload_n dX7_ways_18 rfl 0 rfl rfl ?_
      refine zV_ldc (v := (-1000001)) dX7_ways_19 rfl tw970 ?_
      refine zV_callV (E' := eX7_finding (g_rmv 0)) (av := [.int (-1000001)]) (st := []) (b := 76) dX7_ways_21 rfl (k_RX7_87 _) rfl ⟨by decide, by decide⟩ ⟨by decide, by decide⟩ (Or.inl rfl) rfl (Nat.le_of_ble_eq_true rfl) rfl rfl rfl (m_finding (w := 0) (by decide) (by decide)) (fun r21 M21 z => ?_)
      obtain ⟨rfl, rfl⟩ := z
      show zV G (eX7_ways (g_rmv 5)) (0, 0) 24 [(0, .ref 76), (1, .int x), (2, .int y)] [.int (fdg 0)] (mm (mTell I 0) J t) _
      exact zV_ireturn dX7_ways_24 rfl rfl (PM.tell hM (by decide) (by unfold op_ways; rw [if_pos h4, if_neg h15]) scM.rf)

set_option maxRecDepth 100000 in
theorem q_can {G : mG} {I : Nat → Nat → Int32} {J : Nat → Nat → Int64} {t : Nat} {B : Nat} {S : aS} (hM : InvM I S) (hw : wfS B S) {x y : Int32} : zC G yX7_can (eX7_can (g_rmv 6)) [.ref 76, .int x, .int y] (mm I J t) (fun r M => PM I (op_can S x y) r M) := by
  refine zC_of (by decide +kernel) rfl (by decide) (Nat.le_of_ble_eq_true rfl) ?_
  have n10 := hw.1.1
  show zV G (eX7_can (g_rmv 6)) (0, 0) 0 [(0, .ref 76), (1, .int x), (2, .int y)] [] (mm I J t) _
  refine zV_iload_n dX7_can_0 rfl 1 rfl rfl ?_
  refine zV_callS (E' := eX7_isPurse (g_rmv 1)) (av := [.int x]) (st := []) dX7_can_1 rfl (k_RX7_76 _) rfl ⟨by decide, by decide⟩ ⟨by decide, by decide⟩ (Or.inl rfl) rfl (Nat.le_of_ble_eq_true rfl) (m_isPurse (x := x)) (fun r1 M1 z => ?_)
  obtain ⟨rfl, rfl⟩ := z
  show zV G (eX7_can (g_rmv 6)) (0, 0) 4 [(0, .ref 76), (1, .int x), (2, .int y)] [.int (b2 (inR x 3))] (mm I J t) _
  refine zB_if_eq (tgt := 14) dX7_can_4 rfl rfl  (fun h4 => ?_) (fun h4 => ?_)
  · refine zV_aload_n dX7_can_14 rfl 0 rfl rfl ?_
    refine zV_ldc (v := (-1000001)) dX7_can_15 rfl tw970 ?_
    refine zV_callV (E' := eX7_finding (g_rmv 0)) (av := [.int (-1000001)]) (st := []) (b := 76) dX7_can_17 rfl (k_RX7_87 _) rfl ⟨by decide, by decide⟩ ⟨by decide, by decide⟩ (Or.inl rfl) rfl (Nat.le_of_ble_eq_true rfl) rfl rfl rfl (m_finding (w := 0) (by decide) (by decide)) (fun r17 M17 z => ?_)
    obtain ⟨rfl, rfl⟩ := z
    show zV G (eX7_can (g_rmv 6)) (0, 0) 20 [(0, .ref 76), (1, .int x), (2, .int y)] [.int (fdg 0)] (mm (mTell I 0) J t) _
    exact zV_ireturn dX7_can_20 rfl rfl (PM.tell hM (by decide) (by unfold op_can; rw [if_neg h4]) scM.rf)
  · refine zV_iload_n dX7_can_7 rfl 2 rfl rfl ?_
    refine zV_callS (E' := eX7_isSum (g_rmv 1)) (av := [.int y]) (st := []) dX7_can_8 rfl (k_RX7_166 _) rfl ⟨by decide, by decide⟩ ⟨by decide, by decide⟩ (Or.inl rfl) rfl (Nat.le_of_ble_eq_true rfl) (m_isSum (x := y)) (fun r8 M8 z => ?_)
    obtain ⟨rfl, rfl⟩ := z
    show zV G (eX7_can (g_rmv 6)) (0, 0) 11 [(0, .ref 76), (1, .int x), (2, .int y)] [.int (b2 (inR y 999))] (mm I J t) _
    refine zB_if_ne (tgt := 21) dX7_can_11 rfl rfl  (fun h11 => ?_) (fun h11 => ?_)
    · obtain ⟨p, hp, rfl⟩ := (inR_iff (by decide)).mp h4
      obtain ⟨v, hv, rfl⟩ := (inR_iff (by decide)).mp h11
      refine zV_aload_n dX7_can_21 rfl 0 rfl rfl ?_
      refine zV_iload_n dX7_can_22 rfl 1 rfl rfl ?_
      refine zV_iload_n dX7_can_23 rfl 2 rfl rfl ?_
      refine zV_callV (E' := eX7_setWith (g_rmv 5)) (av := [.int (nI p), .int (nI v)]) (st := []) (b := 76) dX7_can_24 rfl (k_RX7_169 _) rfl ⟨by decide, by decide⟩ ⟨by decide, by decide⟩ (Or.inl rfl) rfl (Nat.le_of_ble_eq_true rfl) rfl rfl rfl (m_setWith (p := p) (v := v) hM.1 hw.1 (by omega) (by omega)) (fun r24 M24 z => ?_)
      obtain ⟨rfl, rfl⟩ := z
      show zV G (eX7_can (g_rmv 6)) (0, 0) 27 [(0, .ref 76), (1, .int (nI p)), (2, .int (nI v))] [.int (ans (ld_with S.1 (ld_in S.1 p) v))] (mm I J t) _
      have hle := ld_with_le (σ := S.1) (s := ld_in S.1 p) (v := v)
      have hi1024 := ld_in_lt n10 p
      cases eo : ld_with S.1 (ld_in S.1 p) v with
      | none =>
        show zV G (eX7_can (g_rmv 6)) (0, 0) 27 [(0, .ref 76), (1, .int (nI p)), (2, .int (nI v))] [.int (-1)] (mm I J t) _
        refine zV_if_ge (tgt := 34) dX7_can_27 rfl rfl  (fun z => absurd z (by decide)) (fun _ => ?_)
        refine zV_iconst (v := (nI 0)) dX7_can_30 rfl rfl ?_
        refine zV_goto (tgt := 35) dX7_can_31 rfl ?_
        exact zV_ireturn dX7_can_35 rfl rfl (PM.same hM (by unfold op_can; rw [if_pos h4, if_pos h11, tn_nI (show p < 2 ^ 31 by omega), tn_nI (show v < 2 ^ 31 by omega), eo]) scM.rf)
      | some tt =>
        have hle2 := hle tt eo
        show zV G (eX7_can (g_rmv 6)) (0, 0) 27 [(0, .ref 76), (1, .int (nI p)), (2, .int (nI v))] [.int (nI tt)] (mm I J t) _
        refine zN_if_ge (tgt := 34) dX7_can_27 rfl (by omega) rfl ?_
        refine zV_iconst (v := (nI 1)) dX7_can_34 rfl rfl ?_
        exact zV_ireturn dX7_can_35 rfl rfl (PM.same hM (by unfold op_can; rw [if_pos h4, if_pos h11, tn_nI (show p < 2 ^ 31 by omega), tn_nI (show v < 2 ^ 31 by omega), eo]) scM.rf)
    · refine zV_aload_n dX7_can_14 rfl 0 rfl rfl ?_
      refine zV_ldc (v := (-1000001)) dX7_can_15 rfl tw970 ?_
      refine zV_callV (E' := eX7_finding (g_rmv 0)) (av := [.int (-1000001)]) (st := []) (b := 76) dX7_can_17 rfl (k_RX7_87 _) rfl ⟨by decide, by decide⟩ ⟨by decide, by decide⟩ (Or.inl rfl) rfl (Nat.le_of_ble_eq_true rfl) rfl rfl rfl (m_finding (w := 0) (by decide) (by decide)) (fun r17 M17 z => ?_)
      obtain ⟨rfl, rfl⟩ := z
      show zV G (eX7_can (g_rmv 6)) (0, 0) 20 [(0, .ref 76), (1, .int x), (2, .int y)] [.int (fdg 0)] (mm (mTell I 0) J t) _
      exact zV_ireturn dX7_can_20 rfl rfl (PM.tell hM (by decide) (by unfold op_can; rw [if_pos h4, if_neg h11]) scM.rf)
