/-! lists of sets; with, can of the reference -/
set_option maxRecDepth 100000 in
theorem c_listSets {G : mG} {I : Nat → Nat → Int32} {J : Nat → Nat → Int64} {t : Nat} {s : Nat} {e : Nat → Int32} (hs : s < 1024) (he : ∀ c, c < 10 → s.testBit c = true → I 64 c = e c) : zC G yX5_listSets (eX5_listSets (g_rmv 1)) [.ref 61, .int (nI s)] (mm I J t) (fun r M => ∃ I', r = none ∧ M = mm I' J t ∧ I' 61 2 = nI (slc s 10) ∧ (∀ i, i < slc s 10 → I' 62 i = nI (slf s 10 i) ∧ I' 63 i = tsm e (slf s 10 i) 10) ∧ ∀ i, i ≠ 61 → i ≠ 62 → i ≠ 63 → I' i = I i) := by
  refine zC_of (by decide +kernel) rfl (by decide) (Nat.le_of_ble_eq_true rfl) ?_
  show zV G (eX5_listSets (g_rmv 1)) (0, 0) 0 [(0, .ref 61), (1, .int (nI s))] [] (mm I J t) _
  refine zV_aload_n dX5_listSets_0 rfl 0 rfl rfl ?_
  refine zV_getr (q' := 62) 0 dX5_listSets_1 rfl fl_RX5_9 rfl (by decide) rfl rfl ?_
  refine zV_iconst (v := (nI 0)) dX5_listSets_4 rfl rfl ?_
  refine zV_iconst (v := (nI 0)) dX5_listSets_5 rfl rfl ?_
  refine zV_iastore 0 dX5_listSets_6 rfl rfl rfl (by decide) (by decide)  ?_
  refine zV_aload_n dX5_listSets_7 rfl 0 rfl rfl ?_
  refine zV_getr (q' := 63) 1 dX5_listSets_8 rfl fl_RX5_15 rfl (by decide) rfl rfl ?_
  refine zV_iconst (v := (nI 0)) dX5_listSets_11 rfl rfl ?_
  refine zV_iconst (v := (nI 0)) dX5_listSets_12 rfl rfl ?_
  refine zV_iastore 0 dX5_listSets_13 rfl rfl rfl (by decide) (by decide)  ?_
  refine zV_aload_n dX5_listSets_14 rfl 0 rfl rfl ?_
  refine zV_iconst (v := (nI 1)) dX5_listSets_15 rfl rfl ?_
  refine zV_puti 2 dX5_listSets_16 rfl fl_RX5_18 rfl (by decide) rfl rfl rfl ?_
  refine zV_iconst (v := (nI 0)) dX5_listSets_19 rfl rfl ?_
  refine zV_istore_n (lv' := [(0, .ref 61), (1, .int (nI s)), (2, .int (nI 0))]) dX5_listSets_20 rfl rfl (by decide) rfl ?_
  refine z_for (fun c => ∀ (I1 : Nat → Nat → Int32), (I1 61 2 = nI (slc s c) ∧ (∀ i, i < slc s c → I1 62 i = nI (slf s c i) ∧ I1 63 i = tsm e (slf s c i) 10) ∧ ∀ i, i ≠ 61 → i ≠ 62 → i ≠ 63 → I1 i = I i) → zV G (eX5_listSets (g_rmv 1)) (0, 0) 21 [(0, .ref 61), (1, .int (nI s)), (2, .int (nI c))] [] (mm I1 J t) _) 10 ?_ ?_ 0 (Nat.zero_le _) (up2 (up2 (up2 I 62 0 (nI 0)) 63 0 (nI 0)) 61 2 (nI 1)) ⟨up2_same _ _ _ _, (fun i hi => by have e0 : i = 0 := Nat.lt_one_iff.mp hi; subst e0; exact ⟨by rw [up2_ni (by decide), up2_ni (by decide), up2_same]; rfl, by rw [up2_ni (by decide), up2_same]; exact (tsm_0 e 10).symm⟩), fun i a b g => by funext k; rw [up2_ni a, up2_ni g, up2_ni b]⟩
  · intro I1 h1
    refine zV_iload_n dX5_listSets_21 rfl 2 rfl rfl ?_
    refine zV_bipush (v := (nI 10)) dX5_listSets_22 rfl rfl ?_
    refine zN_icmp_ge (tgt := 112) dX5_listSets_24 rfl rfl (by omega) (by omega) (fun _ => ?_) (fun z => absurd z (by omega))
    exact zV_return dX5_listSets_112 rfl (⟨I1, rfl, rfl, h1.1, h1.2.1, h1.2.2⟩)
  · intro c hc ih
    intro I1 h1
    refine zV_iload_n dX5_listSets_21 rfl 2 rfl rfl ?_
    refine zV_bipush (v := (nI 10)) dX5_listSets_22 rfl rfl ?_
    refine zN_icmp_ge (tgt := 112) dX5_listSets_24 rfl rfl (by omega) (by omega) (fun z => absurd z (by omega)) (fun _ => ?_)
    refine zV_iload_n dX5_listSets_27 rfl 1 rfl rfl ?_
    refine zV_iload_n dX5_listSets_28 rfl 2 rfl rfl ?_
    refine zV_callSN (E' := eX6_holds (g_rmv 0)) (av := [.int (nI s), .int (nI c)]) (st := []) dX5_listSets_29 rfl (k_RX5_114 _) rfl ⟨by decide, by decide⟩ ⟨by decide, by decide⟩ (Or.inl rfl) rfl (Nat.le_of_ble_eq_true rfl) (c_holds (s := s) (c := c) (by omega) (by omega)) (fun r29 M29 z => ?_)
    obtain ⟨rfl, rfl⟩ := z
    show zV G (eX5_listSets (g_rmv 1)) (0, 0) 32 [(0, .ref 61), (1, .int (nI s)), (2, .int (nI c))] [.int (b2 ((s).testBit c = true))] (mm I1 J t) _
    refine zB_if_eq (tgt := 106) dX5_listSets_32 rfl rfl  (fun h32 => ?_) (fun h32 => ?_)
    · refine zV_iinc (y := (nI (c + 1))) (lv' := [(0, .ref 61), (1, .int (nI s)), (2, .int (nI (c + 1)))]) dX5_listSets_106 rfl 2 rfl (nI_1 _) (by decide) rfl ?_
      refine zV_goto (tgt := 21) dX5_listSets_109 rfl ?_
      exact ih I1 ⟨by rw [slc_f h32]; exact h1.1, fun i hi => by rw [slc_f h32] at hi; rw [slf_f h32]; exact h1.2.1 i hi, h1.2.2⟩
    · refine zV_iconst (v := (nI 0)) dX5_listSets_35 rfl rfl ?_
      refine zV_istore_n (lv' := [(0, .ref 61), (1, .int (nI s)), (2, .int (nI c)), (3, .int (nI 0))]) dX5_listSets_36 rfl rfl (by decide) rfl ?_
      have p9 : 2 ^ c ≤ 512 := Nat.pow_le_pow_right (n := 2) (by decide) (show c ≤ 9 by omega)
      have sl := slc_le s c
      refine z_for (fun d => ∀ (I2 : Nat → Nat → Int32), (I2 61 2 = nI (slc s c) ∧ (∀ i, i < slc s c → I2 62 i = nI (slf s c i) ∧ I2 63 i = tsm e (slf s c i) 10) ∧ (∀ i, i < d → I2 62 (slc s c + i) = nI (slf s c i + 2 ^ c) ∧ I2 63 (slc s c + i) = tsm e (slf s c i) 10 + e c) ∧ ∀ i, i ≠ 61 → i ≠ 62 → i ≠ 63 → I2 i = I i) → zV G (eX5_listSets (g_rmv 1)) (0, 0) 37 [(0, .ref 61), (1, .int (nI s)), (2, .int (nI c)), (3, .int (nI d))] [] (mm I2 J t) _) (slc s c) ?_ ?_ 0 (Nat.zero_le _) I1 ⟨h1.1, h1.2.1, fun i h => absurd h (Nat.not_lt_zero _), h1.2.2⟩
      · intro I2 h2
        have p9 : 2 ^ c ≤ 512 := Nat.pow_le_pow_right (n := 2) (by decide) (show c ≤ 9 by omega)
        have sl := slc_le s c
        refine zV_iload_n dX5_listSets_37 rfl 3 rfl rfl ?_
        refine zV_aload_n dX5_listSets_38 rfl 0 rfl rfl ?_
        refine zV_getI (x := (nI (slc s c))) 2 dX5_listSets_39 rfl fl_RX5_18 rfl (by decide) rfl h2.1 ?_
        refine zN_icmp_ge (tgt := 96) dX5_listSets_42 rfl rfl (by omega) (by omega) (fun _ => ?_) (fun z => absurd z (by omega))
        refine zV_aload_n dX5_listSets_96 rfl 0 rfl rfl ?_
        refine zV_dup dX5_listSets_97 rfl rfl ?_
        refine zV_getI (x := (nI (slc s c))) 2 dX5_listSets_98 rfl fl_RX5_18 rfl (by decide) rfl h2.1 ?_
        refine zV_iconst (v := (nI 2)) dX5_listSets_101 rfl rfl ?_
        refine zA_imul (z := (nI (slc s c + slc s c))) dX5_listSets_102 rfl  (by rw [pk_mul, Nat.mul_two]) ?_
        refine zV_puti 2 dX5_listSets_103 rfl fl_RX5_18 rfl (by decide) rfl rfl rfl ?_
        refine zV_iinc (y := (nI (c + 1))) (lv' := [(0, .ref 61), (1, .int (nI s)), (2, .int (nI (c + 1))), (3, .int (nI (slc s c)))]) dX5_listSets_106 rfl 2 rfl (nI_1 _) (by decide) rfl ?_
        refine zV_goto (tgt := 21) dX5_listSets_109 rfl ?_
        refine zV_keep (lv' := [(0, .ref 61), (1, .int (nI s)), (2, .int (nI (c + 1)))]) [0, 1, 2] rfl ?_
        exact ih _ ⟨by rw [slc_t h32, up2_same], fun i hi => by
            rw [slc_t h32] at hi
            rw [slf_t h32, up2_ni (by decide), up2_ni (by decide)]
            by_cases ei : i < slc s c
            · rw [if_pos ei]; exact h2.2.1 i ei
            · rw [if_neg ei, tsm_add (slf_lt s c _ (by omega)) (by omega)]; have h9 := h2.2.2.1 (i - slc s c) (by omega); rw [show slc s c + (i - slc s c) = i by omega] at h9; exact h9, fun i a b g => by rw [← h2.2.2.2 i a b g]; funext k; exact up2_ni a⟩
      · intro d hd ih2
        intro I2 h2
        have p9 : 2 ^ c ≤ 512 := Nat.pow_le_pow_right (n := 2) (by decide) (show c ≤ 9 by omega)
        have sl := slc_le s c
        refine zV_iload_n dX5_listSets_37 rfl 3 rfl rfl ?_
        refine zV_aload_n dX5_listSets_38 rfl 0 rfl rfl ?_
        refine zV_getI (x := (nI (slc s c))) 2 dX5_listSets_39 rfl fl_RX5_18 rfl (by decide) rfl h2.1 ?_
        refine zN_icmp_ge (tgt := 96) dX5_listSets_42 rfl rfl (by omega) (by omega) (fun z => absurd z (by omega)) (fun _ => ?_)
        refine zV_aload_n dX5_listSets_45 rfl 0 rfl rfl ?_
        refine zV_getr (q' := 62) 0 dX5_listSets_46 rfl fl_RX5_9 rfl (by decide) rfl rfl ?_
        refine zV_aload_n dX5_listSets_49 rfl 0 rfl rfl ?_
        refine zV_getI (x := (nI (slc s c))) 2 dX5_listSets_50 rfl fl_RX5_18 rfl (by decide) rfl h2.1 ?_
        refine zV_iload_n dX5_listSets_53 rfl 3 rfl rfl ?_
        refine zA_iadd (z := (nI ((slc s c) + d))) dX5_listSets_54 rfl  (nI_add _ _) ?_
        refine zV_aload_n dX5_listSets_55 rfl 0 rfl rfl ?_
        refine zV_getr (q' := 62) 0 dX5_listSets_56 rfl fl_RX5_9 rfl (by decide) rfl rfl ?_
        refine zV_iload_n dX5_listSets_59 rfl 3 rfl rfl ?_
        refine zV_iald (x := (nI (slf s c d))) d dX5_listSets_60 rfl rfl rfl (by omega) (by decide) ((h2.2.1 d hd).1) ?_
        refine zV_iconst (v := (nI 1)) dX5_listSets_61 rfl rfl ?_
        refine zV_iload_n dX5_listSets_62 rfl 2 rfl rfl ?_
        refine zA_ishl (z := (nI (2 ^ c))) dX5_listSets_63 rfl  (z_shl1 (by omega)) ?_
        refine zA_ior (z := (nI ((slf s c d) + 2 ^ c))) dX5_listSets_64 rfl  (z_or (slf_lt s c d hd)) ?_
        refine zV_iastore ((slc s c) + d) dX5_listSets_65 rfl rfl rfl (by omega) (by decide)  ?_
        refine zV_aload_n dX5_listSets_66 rfl 0 rfl rfl ?_
        refine zV_getr (q' := 63) 1 dX5_listSets_67 rfl fl_RX5_15 rfl (by decide) rfl rfl ?_
        refine zV_aload_n dX5_listSets_70 rfl 0 rfl rfl ?_
        refine zV_getI (x := (nI (slc s c))) 2 dX5_listSets_71 rfl fl_RX5_18 rfl (by decide) rfl (by rw [up2_ni (by decide)]; exact h2.1) ?_
        refine zV_iload_n dX5_listSets_74 rfl 3 rfl rfl ?_
        refine zA_iadd (z := (nI ((slc s c) + d))) dX5_listSets_75 rfl  (nI_add _ _) ?_
        refine zV_aload_n dX5_listSets_76 rfl 0 rfl rfl ?_
        refine zV_getr (q' := 63) 1 dX5_listSets_77 rfl fl_RX5_15 rfl (by decide) rfl rfl ?_
        refine zV_iload_n dX5_listSets_80 rfl 3 rfl rfl ?_
        refine zV_iald (x := (tsm e (slf s c d) 10)) d dX5_listSets_81 rfl rfl rfl (by omega) (by decide) (by rw [up2_ni (by decide)]; exact (h2.2.1 d hd).2) ?_
        refine zV_aload_n dX5_listSets_82 rfl 0 rfl rfl ?_
        refine zV_getr (q' := 64) 3 dX5_listSets_83 rfl fl_RX5_22 rfl (by decide) rfl rfl ?_
        refine zV_iload_n dX5_listSets_86 rfl 2 rfl rfl ?_
        refine zV_iald (x := (e c)) c dX5_listSets_87 rfl rfl rfl (by omega) (by decide) (by rw [up2_ni (by decide), h2.2.2.2 64 (by decide) (by decide) (by decide)]; exact he c (by omega) h32) ?_
        refine zA_iadd (z := ((tsm e (slf s c d) 10) + (e c))) dX5_listSets_88 rfl  (rfl) ?_
        refine zV_iastore ((slc s c) + d) dX5_listSets_89 rfl rfl rfl (by omega) (by decide)  ?_
        refine zV_iinc (y := (nI (d + 1))) (lv' := [(0, .ref 61), (1, .int (nI s)), (2, .int (nI c)), (3, .int (nI (d + 1)))]) dX5_listSets_90 rfl 3 rfl (nI_1 _) (by decide) rfl ?_
        refine zV_goto (tgt := 37) dX5_listSets_93 rfl ?_
        exact ih2 _ ⟨by rw [up2_ni (by decide), up2_ni (by decide)]; exact h2.1, fun i hi => ⟨by rw [up2_ni (by decide), up2_nk (by omega)]; exact (h2.2.1 i hi).1, by rw [up2_nk (by omega), up2_ni (by decide)]; exact (h2.2.1 i hi).2⟩, fun i hi => by
            by_cases ei : i = d
            · subst ei; exact ⟨by rw [up2_ni (by decide), up2_same], by rw [up2_same]⟩
            · exact ⟨by rw [up2_ni (by decide), up2_nk (by omega)]; exact (h2.2.2.1 i (by omega)).1, by rw [up2_nk (by omega), up2_ni (by decide)]; exact (h2.2.2.1 i (by omega)).2⟩, fun i a b g => by rw [← h2.2.2.2 i a b g]; funext k; rw [up2_ni g, up2_ni b]⟩

set_option maxRecDepth 100000 in
theorem c_least {G : mG} {I : Nat → Nat → Int32} {J : Nat → Nat → Int64} {t : Nat} {B : Nat} {σ : aL} (hA : absL I 1 σ) (hW : wfL B σ) {s v : Nat} (hsp : s < 2 ^ σ.1) (hv : v < 10000) : zC G yX5_leastSetWorth (eX5_leastSetWorth (g_rmv 3)) [.ref 61, .ref 1, .int (nI s), .int (nI v)] (mm I J t) (fun r M => ∃ I', r = some (.int (ans (ld_with σ s v))) ∧ M = mm I' J t ∧ ∀ i, i ≠ 61 → i ≠ 62 → i ≠ 63 → i ≠ 64 → I' i = I i) := by
  refine zC_of (by decide +kernel) rfl (by decide) (Nat.le_of_ble_eq_true rfl) ?_
  have n10 := hW.1
  have p10 := z_p10 n10
  have hs : s < 1024 := Nat.lt_of_lt_of_le hsp p10
  have hsn : ∀ c, s.testBit c = true → c < σ.1 := fun c hb => set_bit hsp hb
  show zV G (eX5_leastSetWorth (g_rmv 3)) (0, 0) 0 [(0, .ref 61), (1, .ref 1), (2, .int (nI s)), (3, .int (nI v))] [] (mm I J t) _
  refine zV_iconst (v := (nI 0)) dX5_leastSetWorth_0 rfl rfl ?_
  refine zV_istore (lv' := [(0, .ref 61), (1, .ref 1), (2, .int (nI s)), (3, .int (nI v)), (4, .int (nI 0))]) dX5_leastSetWorth_1 rfl (by decide) rfl ?_
  refine z_for (fun c => ∀ (I1 : Nat → Nat → Int32), ((∀ i, i < c → I1 64 i = (fun c => nI (k_now (σ.2.1 c))) i) ∧ ∀ i, i ≠ 64 → I1 i = I i) → zV G (eX5_leastSetWorth (g_rmv 3)) (0, 0) 3 [(0, .ref 61), (1, .ref 1), (2, .int (nI s)), (3, .int (nI v)), (4, .int (nI c))] [] (mm I1 J t) _) σ.1 ?_ ?_ 0 (Nat.zero_le _) I ⟨fun i h => absurd h (Nat.not_lt_zero _), fun _ _ => rfl⟩
  · intro I1 h1
    refine zV_iload dX5_leastSetWorth_3 rfl 4 rfl ?_
    refine zV_aload_n dX5_leastSetWorth_5 rfl 1 rfl rfl ?_
    refine zV_getI (x := (nI σ.1)) 2 dX5_leastSetWorth_6 rfl fl_RX5_40 (sh_land (Or.inl rfl)) (by decide) rfl (by rw [h1.2 1 (by decide)]; exact hA.1) ?_
    refine zN_icmp_ge (tgt := 35) dX5_leastSetWorth_9 rfl rfl (by omega) (by omega) (fun _ => ?_) (fun z => absurd z (by omega))
    refine zV_aload_n dX5_leastSetWorth_35 rfl 0 rfl rfl ?_
    refine zV_iload_n dX5_leastSetWorth_36 rfl 2 rfl rfl ?_
    refine zV_callV (E' := eX5_listSets (g_rmv 1)) (av := [.int (nI s)]) (st := []) (b := 61) dX5_leastSetWorth_37 rfl (k_RX5_55 _) rfl ⟨by decide, by decide⟩ ⟨by decide, by decide⟩ (Or.inl rfl) rfl (Nat.le_of_ble_eq_true rfl) rfl rfl rfl (c_listSets (s := s) (e := (fun c => nI (k_now (σ.2.1 c)))) (by omega) (fun c _ hb => h1.1 c (hsn c hb))) (fun r37 M37 z => ?_)
    obtain ⟨I37, rfl, rfl, hN37, hL37, hF37⟩ := z
    show zV G (eX5_leastSetWorth (g_rmv 3)) (0, 0) 40 [(0, .ref 61), (1, .ref 1), (2, .int (nI s)), (3, .int (nI v)), (4, .int (nI σ.1))] [] (mm I37 J t) _
    refine zV_iconst (v := (nI 0)) dX5_leastSetWorth_40 rfl rfl ?_
    refine zV_istore (lv' := [(0, .ref 61), (1, .ref 1), (2, .int (nI s)), (3, .int (nI v)), (4, .int (nI 0))]) dX5_leastSetWorth_41 rfl (by decide) rfl ?_
    have sl := slc_le s 10
    refine z_for (fun i => (∀ j, j < i → (fun t => decide (ld_sum σ t = v)) (slf s 10 j) = false) → zV G (eX5_leastSetWorth (g_rmv 3)) (0, 0) 43 [(0, .ref 61), (1, .ref 1), (2, .int (nI s)), (3, .int (nI v)), (4, .int (nI i))] [] (mm I37 J t) _) (slc s 10) ?_ ?_ 0 (Nat.zero_le _) (fun j h => absurd h (Nat.not_lt_zero _))
    · intro hno
      refine zV_iload dX5_leastSetWorth_43 rfl 4 rfl ?_
      refine zV_aload_n dX5_leastSetWorth_45 rfl 0 rfl rfl ?_
      refine zV_getI (x := (nI (slc s 10))) 2 dX5_leastSetWorth_46 rfl fl_RX5_18 rfl (by decide) rfl hN37 ?_
      refine zN_icmp_ge (tgt := 77) dX5_leastSetWorth_49 rfl rfl (by omega) (by omega) (fun _ => ?_) (fun z => absurd z (by omega))
      refine zV_iconst (v := (-1)) dX5_leastSetWorth_77 rfl rfl ?_
      exact zV_ireturn dX5_leastSetWorth_78 rfl rfl (⟨_, by rw [ld_with_c hs, fc_none hno]; rfl, rfl, fun i a b g d => by rw [hF37 i a b g, h1.2 i d]⟩)
    · intro i hi ih hno
      have hTi : I37 63 i = nI (ld_sum σ (slf s 10 i)) := (hL37 i hi).2.trans (tsm_ld n10 (Nat.lt_of_le_of_lt (isSub_le (slf_sub s 10 i hi)) hsp))
      have hbi := ld_sum_le hW (slf s 10 i)
      have hli := slf_lt s 10 i hi
      refine zV_iload dX5_leastSetWorth_43 rfl 4 rfl ?_
      refine zV_aload_n dX5_leastSetWorth_45 rfl 0 rfl rfl ?_
      refine zV_getI (x := (nI (slc s 10))) 2 dX5_leastSetWorth_46 rfl fl_RX5_18 rfl (by decide) rfl hN37 ?_
      refine zN_icmp_ge (tgt := 77) dX5_leastSetWorth_49 rfl rfl (by omega) (by omega) (fun z => absurd z (by omega)) (fun _ => ?_)
      refine zV_aload_n dX5_leastSetWorth_52 rfl 0 rfl rfl ?_
      refine zV_getr (q' := 63) 1 dX5_leastSetWorth_53 rfl fl_RX5_15 rfl (by decide) rfl rfl ?_
      refine zV_iload dX5_leastSetWorth_56 rfl 4 rfl ?_
      refine zV_iald (x := (nI (ld_sum σ (slf s 10 i)))) i dX5_leastSetWorth_58 rfl rfl rfl (by omega) (by decide) hTi ?_
      refine zV_iload_n dX5_leastSetWorth_59 rfl 3 rfl rfl ?_
      refine zN_icmp_ne (tgt := 71) dX5_leastSetWorth_60 rfl rfl (by omega) (by omega) (fun h60 => ?_) (fun h60 => ?_)
      · refine zV_iinc (y := (nI (i + 1))) (lv' := [(0, .ref 61), (1, .ref 1), (2, .int (nI s)), (3, .int (nI v)), (4, .int (nI (i + 1)))]) dX5_leastSetWorth_71 rfl 4 rfl (nI_1 _) (by decide) rfl ?_
        refine zV_goto (tgt := 43) dX5_leastSetWorth_74 rfl ?_
        exact ih (fun j hj => by (by_cases ej : j = i); (· rw [ej]; exact decide_eq_false h60); (· exact hno j (by omega)))
      · refine zV_aload_n dX5_leastSetWorth_63 rfl 0 rfl rfl ?_
        refine zV_getr (q' := 62) 0 dX5_leastSetWorth_64 rfl fl_RX5_9 rfl (by decide) rfl rfl ?_
        refine zV_iload dX5_leastSetWorth_67 rfl 4 rfl ?_
        refine zV_iald (x := (nI (slf s 10 i))) i dX5_leastSetWorth_69 rfl rfl rfl (by omega) (by decide) ((hL37 i hi).1) ?_
        exact zV_ireturn dX5_leastSetWorth_70 rfl rfl (⟨_, by rw [ld_with_c hs]; have h9 := fc_some (p := (fun t => decide (ld_sum σ t = v))) hno (decide_eq_true h60) (slc s 10 - (i + 1)); rw [show i + 1 + (slc s 10 - (i + 1)) = slc s 10 by omega] at h9; rw [h9]; rfl, rfl, fun i a b g d => by rw [hF37 i a b g, h1.2 i d]⟩)
  · intro c hc ih
    intro I1 h1
    refine zV_iload dX5_leastSetWorth_3 rfl 4 rfl ?_
    refine zV_aload_n dX5_leastSetWorth_5 rfl 1 rfl rfl ?_
    refine zV_getI (x := (nI σ.1)) 2 dX5_leastSetWorth_6 rfl fl_RX5_40 (sh_land (Or.inl rfl)) (by decide) rfl (by rw [h1.2 1 (by decide)]; exact hA.1) ?_
    refine zN_icmp_ge (tgt := 35) dX5_leastSetWorth_9 rfl rfl (by omega) (by omega) (fun z => absurd z (by omega)) (fun _ => ?_)
    refine zV_aload_n dX5_leastSetWorth_12 rfl 0 rfl rfl ?_
    refine zV_getr (q' := 64) 3 dX5_leastSetWorth_13 rfl fl_RX5_22 rfl (by decide) rfl rfl ?_
    refine zV_iload dX5_leastSetWorth_16 rfl 4 rfl ?_
    refine zV_aload_n dX5_leastSetWorth_18 rfl 1 rfl rfl ?_
    refine zV_getrX (q' := (1 + 1)) 0 dX5_leastSetWorth_19 rfl fl_RX5_45 (sh_land (Or.inl rfl)) (by decide) rfl (R_coins (Or.inl rfl)) ?_
    refine zV_iload dX5_leastSetWorth_22 rfl 4 rfl ?_
    refine zV_aaload (q' := (1 + 3 + c)) c dX5_leastSetWorth_24 rfl (sh_coins (Or.inl rfl)) rfl (by decide) rfl (by omega) (by decide) (R_coin (Or.inl rfl) (by omega)) ?_
    refine zV_callV (E' := eX0_worthNow (g_rmv 2)) (av := []) (st := [.int (nI c), .ref 64]) (b := (1 + 3 + c)) dX5_leastSetWorth_25 rfl (k_RX5_49 _) rfl ⟨by decide, by decide⟩ ⟨by decide, by decide⟩ (Or.inl rfl) rfl (Nat.le_of_ble_eq_true rfl) (sh_coin (Or.inl rfl) (by omega)) rfl rfl (c_worthNow (sh_coin (Or.inl rfl) (by omega)) (fun f hf => by rw [h1.2 (1 + 3 + c) (by omega)]; exact hA.2.1 c hc f hf) (hW.2.1 c hc)) (fun r25 M25 z => ?_)
    obtain ⟨rfl, rfl⟩ := z
    show zV G (eX5_leastSetWorth (g_rmv 3)) (0, 0) 28 [(0, .ref 61), (1, .ref 1), (2, .int (nI s)), (3, .int (nI v)), (4, .int (nI c))] [.int (nI (k_now (σ.2.1 c))), .int (nI c), .ref 64] (mm I1 J t) _
    refine zV_iastore c dX5_leastSetWorth_28 rfl rfl rfl (by omega) (by decide)  ?_
    refine zV_iinc (y := (nI (c + 1))) (lv' := [(0, .ref 61), (1, .ref 1), (2, .int (nI s)), (3, .int (nI v)), (4, .int (nI (c + 1)))]) dX5_leastSetWorth_29 rfl 4 rfl (nI_1 _) (by decide) rfl ?_
    refine zV_goto (tgt := 3) dX5_leastSetWorth_32 rfl ?_
    exact ih _ ⟨fun i hi => by
        by_cases ei : i = c
        · rw [ei, up2_same] <;> rfl
        · rw [up2_nk ei]; exact h1.1 i (by omega), fun i hi => by rw [← h1.2 i hi]; funext k; exact up2_ni hi⟩

theorem ld_with_le {σ : aL} {s v : Nat} : ∀ tt, ld_with σ s v = some tt → tt ≤ s := by
  intro tt h
  unfold ld_with at h
  have g : ∀ m x, fo (fn1 (fun t => decide (ld_sum σ t = v))) none s m = some x → isSub s x = true := by
    intro m
    induction m with
    | zero => intro x h; cases h
    | succ m ih =>
      intro x h
      change (if isSub s m = true then fn1 _ (fo _ none s m) m else fo _ none s m) = some x at h
      by_cases hb : isSub s m = true
      · rw [if_pos hb] at h
        cases eo : fo (fn1 (fun t => decide (ld_sum σ t = v))) none s m with
        | none =>
          rw [eo] at h
          change (if decide (ld_sum σ m = v) = true then some m else none) = some x at h
          by_cases hp : decide (ld_sum σ m = v) = true
          · rw [if_pos hp] at h; cases h; exact hb
          · rw [if_neg hp] at h; cases h
        | some y =>
          rw [eo] at h
          change some y = some x at h
          cases h
          exact ih x eo
      · rw [if_neg hb] at h
        exact ih x h
  exact isSub_le (g _ _ h)
set_option maxRecDepth 100000 in
theorem p_with {G : mG} {I : Nat → Nat → Int32} {J : Nat → Nat → Int64} {t : Nat} {B : Nat} {S : aS} (hC : InvC I S) (hw : wfS B S) {x y : Int32} : zC G yX6_with (eX6_with (g_rmv 4)) [.ref 0, .int x, .int y] (mm I J t) (fun r M => PC I (op_with S x y) r M) := by
  refine zC_of (by decide +kernel) rfl (by decide) (Nat.le_of_ble_eq_true rfl) ?_
  have n10 := hw.1.1
  show zV G (eX6_with (g_rmv 4)) (0, 0) 0 [(0, .ref 0), (1, .int x), (2, .int y)] [] (mm I J t) _
  refine zV_iload_n dX6_with_0 rfl 1 rfl rfl ?_
  refine zV_callS (E' := eX6_isPurse (g_rmv 1)) (av := [.int x]) (st := []) dX6_with_1 rfl (k_RX6_124 _) rfl ⟨by decide, by decide⟩ ⟨by decide, by decide⟩ (Or.inl rfl) rfl (Nat.le_of_ble_eq_true rfl) (c_isPurse (x := x)) (fun r1 M1 z => ?_)
  obtain ⟨rfl, rfl⟩ := z
  show zV G (eX6_with (g_rmv 4)) (0, 0) 4 [(0, .ref 0), (1, .int x), (2, .int y)] [.int (b2 (inR x 3))] (mm I J t) _
  refine zB_if_eq (tgt := 17) dX6_with_4 rfl rfl  (fun h4 => ?_) (fun h4 => ?_)
  · refine zV_aload_n dX6_with_17 rfl 0 rfl rfl ?_
    refine zV_ldc (v := (-1000001)) dX6_with_18 rfl tw264 ?_
    refine zV_callV (E' := eX6_tell (g_rmv 1)) (av := [.int (-1000001)]) (st := []) (b := 0) dX6_with_20 rfl (k_RX6_70 _) rfl ⟨by decide, by decide⟩ ⟨by decide, by decide⟩ (Or.inl rfl) rfl (Nat.le_of_ble_eq_true rfl) rfl rfl rfl (c_tell (w := 0) (by decide) (by decide)) (fun r20 M20 z => ?_)
    obtain ⟨rfl, rfl⟩ := z
    show zV G (eX6_with (g_rmv 4)) (0, 0) 23 [(0, .ref 0), (1, .int x), (2, .int y)] [.int (fdg 0)] (mm (up2 I 67 0 (I 67 0 + nI 1)) J t) _
    exact zV_ireturn dX6_with_23 rfl rfl (PC.tell hC hw (by unfold op_with; rw [if_neg h4]) (fun _ _ => rfl))
  · refine zV_iload_n dX6_with_7 rfl 2 rfl rfl ?_
    refine zV_sipush (v := (nI 999)) dX6_with_8 rfl rfl ?_
    refine zV_callS (E' := eX6_isWithin (g_rmv 0)) (av := [.int y, .int (nI 999)]) (st := []) dX6_with_11 rfl (k_RX6_65 _) rfl ⟨by decide, by decide⟩ ⟨by decide, by decide⟩ (Or.inl rfl) rfl (Nat.le_of_ble_eq_true rfl) (c_isWithin (x := y) (y := (nI 999))) (fun r11 M11 z => ?_)
    obtain ⟨rfl, rfl⟩ := z
    show zV G (eX6_with (g_rmv 4)) (0, 0) 14 [(0, .ref 0), (1, .int x), (2, .int y)] [.int (b2 (0 ≤ y ∧ y ≤ (nI 999)))] (mm I J t) _
    refine zB_if_ne (tgt := 24) dX6_with_14 rfl rfl  (fun h14 => ?_) (fun h14 => ?_)
    · obtain ⟨p, hp, rfl⟩ := (inR_iff (by decide)).mp h4
      obtain ⟨v, hv, rfl⟩ := (inR_iff (by decide)).mp h14
      refine zV_aload_n dX6_with_24 rfl 0 rfl rfl ?_
      refine zV_getr (q' := 61) 9 dX6_with_25 rfl fl_RX6_57 rfl (by decide) rfl rfl ?_
      refine zV_aload_n dX6_with_28 rfl 0 rfl rfl ?_
      refine zV_getr (q' := 1) 0 dX6_with_29 rfl fl_RX6_12 rfl (by decide) rfl rfl ?_
      refine zV_aload_n dX6_with_32 rfl 0 rfl rfl ?_
      refine zV_getr (q' := 1) 0 dX6_with_33 rfl fl_RX6_12 rfl (by decide) rfl rfl ?_
      refine zV_iload_n dX6_with_36 rfl 1 rfl rfl ?_
      refine zV_callV (E' := eX1_coinsIn (g_rmv 0)) (av := [.int (nI p)]) (st := [.ref 1, .ref 61]) (b := 1) dX6_with_37 rfl (k_RX6_127 _) rfl ⟨by decide, by decide⟩ ⟨by decide, by decide⟩ (Or.inl rfl) rfl (Nat.le_of_ble_eq_true rfl) (sh_land (Or.inl rfl)) rfl rfl (c_coinsIn (p := p) (Or.inl rfl) hC.1 hw.1 (by omega)) (fun r37 M37 z => ?_)
      obtain ⟨rfl, rfl⟩ := z
      show zV G (eX6_with (g_rmv 4)) (0, 0) 40 [(0, .ref 0), (1, .int (nI p)), (2, .int (nI v))] [.int (nI (ld_in S.1 p)), .ref 1, .ref 61] (mm I J t) _
      refine zV_iload_n dX6_with_40 rfl 2 rfl rfl ?_
      refine zV_callV (E' := eX5_leastSetWorth (g_rmv 3)) (av := [.ref 1, .int (nI (ld_in S.1 p)), .int (nI v)]) (st := []) (b := 61) dX6_with_41 rfl (k_RX6_157 _) rfl ⟨by decide, by decide⟩ ⟨by decide, by decide⟩ (Or.inl rfl) rfl (Nat.le_of_ble_eq_true rfl) rfl rfl rfl (c_least (s := (ld_in S.1 p)) (v := v) hC.1 hw.1 (ld_in_p _ _) (by omega)) (fun r41 M41 z => ?_)
      obtain ⟨I41, rfl, rfl, hF41⟩ := z
      show zV G (eX6_with (g_rmv 4)) (0, 0) 44 [(0, .ref 0), (1, .int (nI p)), (2, .int (nI v))] [.int (ans (ld_with S.1 (ld_in S.1 p) v))] (mm I41 J t) _
      refine zV_istore_n (lv' := [(0, .ref 0), (1, .int (nI p)), (2, .int (nI v)), (3, .int (ans (ld_with S.1 (ld_in S.1 p) v)))]) dX6_with_44 rfl rfl (by decide) rfl ?_
      have hle := ld_with_le (σ := S.1) (s := ld_in S.1 p) (v := v)
      have hi1024 := ld_in_lt n10 p
      cases eo : ld_with S.1 (ld_in S.1 p) v with
      | none =>
        show zV G (eX6_with (g_rmv 4)) (0, 0) 45 [(0, .ref 0), (1, .int (nI p)), (2, .int (nI v)), (3, .int (-1))] [] (mm I41 J t) _
        refine zV_iload_n dX6_with_45 rfl 3 rfl rfl ?_
        refine zV_if_lt (tgt := 53) dX6_with_46 rfl rfl  (fun _ => ?_) (fun z => absurd z (by decide))
        refine zV_aload_n dX6_with_53 rfl 0 rfl rfl ?_
        refine zV_ldc (v := (-1000004)) dX6_with_54 rfl tw424 ?_
        refine zV_callV (E' := eX6_tell (g_rmv 1)) (av := [.int (-1000004)]) (st := []) (b := 0) dX6_with_56 rfl (k_RX6_70 _) rfl ⟨by decide, by decide⟩ ⟨by decide, by decide⟩ (Or.inl rfl) rfl (Nat.le_of_ble_eq_true rfl) rfl rfl rfl (c_tell (w := 3) (by decide) (by decide)) (fun r56 M56 z => ?_)
        obtain ⟨rfl, rfl⟩ := z
        show zV G (eX6_with (g_rmv 4)) (0, 0) 59 [(0, .ref 0), (1, .int (nI p)), (2, .int (nI v)), (3, .int (-1))] [.int (fdg 3)] (mm (up2 I41 67 3 (I41 67 3 + nI 1)) J t) _
        exact zV_ireturn dX6_with_59 rfl rfl (PC.tell (hC.mv hw (fun i a _ => hF41 i (by unfold scr at a; omega) (by unfold scr at a; omega) (by unfold scr at a; omega) (by unfold scr at a; omega))) hw (by unfold op_with; rw [if_pos h4, if_pos h14, tn_nI (show p < 2 ^ 31 by omega), tn_nI (show v < 2 ^ 31 by omega), eo]) (fun i hi => hF41 i (by omega) (by omega) (by omega) (by omega)))
      | some tt =>
        have hle2 := hle tt eo
        show zV G (eX6_with (g_rmv 4)) (0, 0) 45 [(0, .ref 0), (1, .int (nI p)), (2, .int (nI v)), (3, .int (nI tt))] [] (mm I41 J t) _
        refine zV_iload_n dX6_with_45 rfl 3 rfl rfl ?_
        refine zN_if_lt (tgt := 53) dX6_with_46 rfl (by omega) rfl ?_
        refine zV_iload_n dX6_with_49 rfl 3 rfl rfl ?_
        refine zV_goto (tgt := 59) dX6_with_50 rfl ?_
        exact zV_ireturn dX6_with_59 rfl rfl (PC.same hC hw (by unfold op_with; rw [if_pos h4, if_pos h14, tn_nI (show p < 2 ^ 31 by omega), tn_nI (show v < 2 ^ 31 by omega), eo]) (fun i hi => hF41 i (by unfold scr at hi; omega) (by unfold scr at hi; omega) (by unfold scr at hi; omega) (by unfold scr at hi; omega)))
    · refine zV_aload_n dX6_with_17 rfl 0 rfl rfl ?_
      refine zV_ldc (v := (-1000001)) dX6_with_18 rfl tw264 ?_
      refine zV_callV (E' := eX6_tell (g_rmv 1)) (av := [.int (-1000001)]) (st := []) (b := 0) dX6_with_20 rfl (k_RX6_70 _) rfl ⟨by decide, by decide⟩ ⟨by decide, by decide⟩ (Or.inl rfl) rfl (Nat.le_of_ble_eq_true rfl) rfl rfl rfl (c_tell (w := 0) (by decide) (by decide)) (fun r20 M20 z => ?_)
      obtain ⟨rfl, rfl⟩ := z
      show zV G (eX6_with (g_rmv 4)) (0, 0) 23 [(0, .ref 0), (1, .int x), (2, .int y)] [.int (fdg 0)] (mm (up2 I 67 0 (I 67 0 + nI 1)) J t) _
      exact zV_ireturn dX6_with_23 rfl rfl (PC.tell hC hw (by unfold op_with; rw [if_pos h4, if_neg h14]) (fun _ _ => rfl))

set_option maxRecDepth 100000 in
theorem m_setWith {G : mG} {I : Nat → Nat → Int32} {J : Nat → Nat → Int64} {t : Nat} {B : Nat} {σ : aL} (hR : absR I 77 σ) (hW : wfL B σ) {p v : Nat} (hp : p < 4) (hv : v < 10000) : zC G yX7_setWith (eX7_setWith (g_rmv 5)) [.ref 76, .int (nI p), .int (nI v)] (mm I J t) (fun r M => r = some (.int (ans (ld_with σ (ld_in σ p) v))) ∧ M = mm I J t) := by
  refine zC_of (by decide +kernel) rfl (by decide) (Nat.le_of_ble_eq_true rfl) ?_
  have n10 := hW.1
  have hi1024 := ld_in_lt n10 p
  show zV G (eX7_setWith (g_rmv 5)) (0, 0) 0 [(0, .ref 76), (1, .int (nI p)), (2, .int (nI v))] [] (mm I J t) _
  refine zV_aload_n dX7_setWith_0 rfl 0 rfl rfl ?_
  refine zV_iload_n dX7_setWith_1 rfl 1 rfl rfl ?_
  refine zV_callV (E' := eX7_setOf (g_rmv 2)) (av := [.int (nI p)]) (st := []) (b := 76) dX7_setWith_2 rfl (k_RX7_139 _) rfl ⟨by decide, by decide⟩ ⟨by decide, by decide⟩ (Or.inl rfl) rfl (Nat.le_of_ble_eq_true rfl) rfl rfl rfl (m_setOf (p := p) hR hW (by omega)) (fun r2 M2 z => ?_)
  obtain ⟨rfl, rfl⟩ := z
  show zV G (eX7_setWith (g_rmv 5)) (0, 0) 5 [(0, .ref 76), (1, .int (nI p)), (2, .int (nI v))] [.int (nI (ld_in σ p))] (mm I J t) _
  refine zV_istore_n (lv' := [(0, .ref 76), (1, .int (nI p)), (2, .int (nI v)), (3, .int (nI (ld_in σ p)))]) dX7_setWith_5 rfl rfl (by decide) rfl ?_
  refine zV_iconst (v := (nI 0)) dX7_setWith_6 rfl rfl ?_
  refine zV_istore (lv' := [(0, .ref 76), (1, .int (nI p)), (2, .int (nI v)), (3, .int (nI (ld_in σ p))), (4, .int (nI 0))]) dX7_setWith_7 rfl (by decide) rfl ?_
  refine z_for (fun c => (∀ j, j < c → isSub (ld_in σ p) j = true → (fun t => decide (ld_sum σ t = v)) j = false) → zV G (eX7_setWith (g_rmv 5)) (0, 0) 9 [(0, .ref 76), (1, .int (nI p)), (2, .int (nI v)), (3, .int (nI (ld_in σ p))), (4, .int (nI c))] [] (mm I J t) _) (ld_in σ p + 1) ?_ ?_ 0 (Nat.zero_le _) (fun j h => absurd h (Nat.not_lt_zero _))
  · intro hno
    refine zV_iload dX7_setWith_9 rfl 4 rfl ?_
    refine zV_iload_n dX7_setWith_11 rfl 3 rfl rfl ?_
    refine zN_icmp_gt (tgt := 43) dX7_setWith_12 rfl rfl (by omega) (by omega) (fun _ => ?_) (fun z => absurd z (by omega))
    refine zV_iconst (v := (-1)) dX7_setWith_43 rfl rfl ?_
    exact zV_ireturn dX7_setWith_44 rfl rfl (⟨by show some (Value.int (-1)) = some (.int (ans (ld_with σ (ld_in σ p) v))); rw [ld_with, fo_none hno]; rfl, rfl⟩)
  · intro c hc ih hno
    have hbi := ld_sum_le hW c
    refine zV_iload dX7_setWith_9 rfl 4 rfl ?_
    refine zV_iload_n dX7_setWith_11 rfl 3 rfl rfl ?_
    refine zN_icmp_gt (tgt := 43) dX7_setWith_12 rfl rfl (by omega) (by omega) (fun z => absurd z (by omega)) (fun _ => ?_)
    refine zV_iload dX7_setWith_15 rfl 4 rfl ?_
    refine zV_iload_n dX7_setWith_17 rfl 3 rfl rfl ?_
    refine zV_iconst (v := (-1)) dX7_setWith_18 rfl rfl ?_
    refine zA_ixor (z := ((nI (ld_in σ p)) ^^^ (-1))) dX7_setWith_19 rfl  (rfl) ?_
    refine zA_iand (z := (nI c &&& (nI (ld_in σ p) ^^^ (-1)))) dX7_setWith_20 rfl  (rfl) ?_
    refine zV_if_ne (tgt := 37) dX7_setWith_21 rfl rfl  (fun h21 => ?_) (fun h21 => ?_)
    · have h21 := fun z => h21 ((z_sub (by omega) (by omega)).mpr z)
      refine zV_iinc (y := (nI (c + 1))) (lv' := [(0, .ref 76), (1, .int (nI p)), (2, .int (nI v)), (3, .int (nI (ld_in σ p))), (4, .int (nI (c + 1)))]) dX7_setWith_37 rfl 4 rfl (nI_1 _) (by decide) rfl ?_
      refine zV_goto (tgt := 9) dX7_setWith_40 rfl ?_
      exact ih (fun j hj hbs => by (by_cases ej : j = c); (· subst ej; exact absurd hbs h21); (· exact hno j (by omega) hbs))
    · have hsb := (z_sub (by omega) (by omega)).mp h21
      refine zV_aload_n dX7_setWith_24 rfl 0 rfl rfl ?_
      refine zV_iload dX7_setWith_25 rfl 4 rfl ?_
      refine zV_callV (E' := eX7_sumOf (g_rmv 4)) (av := [.int (nI c)]) (st := []) (b := 76) dX7_setWith_27 rfl (k_RX7_142 _) rfl ⟨by decide, by decide⟩ ⟨by decide, by decide⟩ (Or.inl rfl) rfl (Nat.le_of_ble_eq_true rfl) rfl rfl rfl (m_sumOf (s := c) hR hW (by omega)) (fun r27 M27 z => ?_)
      obtain ⟨rfl, rfl⟩ := z
      show zV G (eX7_setWith (g_rmv 5)) (0, 0) 30 [(0, .ref 76), (1, .int (nI p)), (2, .int (nI v)), (3, .int (nI (ld_in σ p))), (4, .int (nI c))] [.int (nI (ld_sum σ c))] (mm I J t) _
      refine zV_iload_n dX7_setWith_30 rfl 2 rfl rfl ?_
      refine zN_icmp_ne (tgt := 37) dX7_setWith_31 rfl rfl (by omega) (by omega) (fun h31 => ?_) (fun h31 => ?_)
      · skip
        refine zV_iinc (y := (nI (c + 1))) (lv' := [(0, .ref 76), (1, .int (nI p)), (2, .int (nI v)), (3, .int (nI (ld_in σ p))), (4, .int (nI (c + 1)))]) dX7_setWith_37 rfl 4 rfl (nI_1 _) (by decide) rfl ?_
        refine zV_goto (tgt := 9) dX7_setWith_40 rfl ?_
        exact ih (fun j hj hbs => by (by_cases ej : j = c); (· subst ej; exact decide_eq_false h31); (· exact hno j (by omega) hbs))
      · skip
        refine zV_iload dX7_setWith_34 rfl 4 rfl ?_
        exact zV_ireturn dX7_setWith_36 rfl rfl (⟨by show some (Value.int (nI c)) = some (.int (ans (ld_with σ (ld_in σ p) v))); have h9 := fo_some (p := (fun t => decide (ld_sum σ t = v))) hno hsb (decide_eq_true h31) (ld_in σ p - c); rw [show c + 1 + (ld_in σ p - c) = ld_in σ p + 1 by omega] at h9; rw [ld_with, h9]; rfl, rfl⟩)

set_option maxRecDepth 100000 in
theorem q_with {G : mG} {I : Nat → Nat → Int32} {J : Nat → Nat → Int64} {t : Nat} {B : Nat} {S : aS} (hM : InvM I S) (hw : wfS B S) {x y : Int32} : zC G yX7_with (eX7_with (g_rmv 6)) [.ref 76, .int x, .int y] (mm I J t) (fun r M => PM I (op_with S x y) r M) := by
  refine zC_of (by decide +kernel) rfl (by decide) (Nat.le_of_ble_eq_true rfl) ?_
  have n10 := hw.1.1
  show zV G (eX7_with (g_rmv 6)) (0, 0) 0 [(0, .ref 76), (1, .int x), (2, .int y)] [] (mm I J t) _
  refine zV_iload_n dX7_with_0 rfl 1 rfl rfl ?_
  refine zV_callS (E' := eX7_isPurse (g_rmv 1)) (av := [.int x]) (st := []) dX7_with_1 rfl (k_RX7_76 _) rfl ⟨by decide, by decide⟩ ⟨by decide, by decide⟩ (Or.inl rfl) rfl (Nat.le_of_ble_eq_true rfl) (m_isPurse (x := x)) (fun r1 M1 z => ?_)
  obtain ⟨rfl, rfl⟩ := z
  show zV G (eX7_with (g_rmv 6)) (0, 0) 4 [(0, .ref 76), (1, .int x), (2, .int y)] [.int (b2 (inR x 3))] (mm I J t) _
  refine zB_if_eq (tgt := 14) dX7_with_4 rfl rfl  (fun h4 => ?_) (fun h4 => ?_)
  · refine zV_aload_n dX7_with_14 rfl 0 rfl rfl ?_
    refine zV_ldc (v := (-1000001)) dX7_with_15 rfl tw970 ?_
    refine zV_callV (E' := eX7_finding (g_rmv 0)) (av := [.int (-1000001)]) (st := []) (b := 76) dX7_with_17 rfl (k_RX7_87 _) rfl ⟨by decide, by decide⟩ ⟨by decide, by decide⟩ (Or.inl rfl) rfl (Nat.le_of_ble_eq_true rfl) rfl rfl rfl (m_finding (w := 0) (by decide) (by decide)) (fun r17 M17 z => ?_)
    obtain ⟨rfl, rfl⟩ := z
    show zV G (eX7_with (g_rmv 6)) (0, 0) 20 [(0, .ref 76), (1, .int x), (2, .int y)] [.int (fdg 0)] (mm (mTell I 0) J t) _
    exact zV_ireturn dX7_with_20 rfl rfl (PM.tell hM (by decide) (by unfold op_with; rw [if_neg h4]) scM.rf)
  · refine zV_iload_n dX7_with_7 rfl 2 rfl rfl ?_
    refine zV_callS (E' := eX7_isSum (g_rmv 1)) (av := [.int y]) (st := []) dX7_with_8 rfl (k_RX7_166 _) rfl ⟨by decide, by decide⟩ ⟨by decide, by decide⟩ (Or.inl rfl) rfl (Nat.le_of_ble_eq_true rfl) (m_isSum (x := y)) (fun r8 M8 z => ?_)
    obtain ⟨rfl, rfl⟩ := z
    show zV G (eX7_with (g_rmv 6)) (0, 0) 11 [(0, .ref 76), (1, .int x), (2, .int y)] [.int (b2 (inR y 999))] (mm I J t) _
    refine zB_if_ne (tgt := 21) dX7_with_11 rfl rfl  (fun h11 => ?_) (fun h11 => ?_)
    · obtain ⟨p, hp, rfl⟩ := (inR_iff (by decide)).mp h4
      obtain ⟨v, hv, rfl⟩ := (inR_iff (by decide)).mp h11
      refine zV_aload_n dX7_with_21 rfl 0 rfl rfl ?_
      refine zV_iload_n dX7_with_22 rfl 1 rfl rfl ?_
      refine zV_iload_n dX7_with_23 rfl 2 rfl rfl ?_
      refine zV_callV (E' := eX7_setWith (g_rmv 5)) (av := [.int (nI p), .int (nI v)]) (st := []) (b := 76) dX7_with_24 rfl (k_RX7_169 _) rfl ⟨by decide, by decide⟩ ⟨by decide, by decide⟩ (Or.inl rfl) rfl (Nat.le_of_ble_eq_true rfl) rfl rfl rfl (m_setWith (p := p) (v := v) hM.1 hw.1 (by omega) (by omega)) (fun r24 M24 z => ?_)
      obtain ⟨rfl, rfl⟩ := z
      show zV G (eX7_with (g_rmv 6)) (0, 0) 27 [(0, .ref 76), (1, .int (nI p)), (2, .int (nI v))] [.int (ans (ld_with S.1 (ld_in S.1 p) v))] (mm I J t) _
      refine zV_istore_n (lv' := [(0, .ref 76), (1, .int (nI p)), (2, .int (nI v)), (3, .int (ans (ld_with S.1 (ld_in S.1 p) v)))]) dX7_with_27 rfl rfl (by decide) rfl ?_
      have hle := ld_with_le (σ := S.1) (s := ld_in S.1 p) (v := v)
      have hi1024 := ld_in_lt n10 p
      cases eo : ld_with S.1 (ld_in S.1 p) v with
      | none =>
        show zV G (eX7_with (g_rmv 6)) (0, 0) 28 [(0, .ref 76), (1, .int (nI p)), (2, .int (nI v)), (3, .int (-1))] [] (mm I J t) _
        refine zV_iload_n dX7_with_28 rfl 3 rfl rfl ?_
        refine zV_if_ge (tgt := 41) dX7_with_29 rfl rfl  (fun z => absurd z (by decide)) (fun _ => ?_)
        refine zV_aload_n dX7_with_32 rfl 0 rfl rfl ?_
        refine zV_ldc (v := (-1000004)) dX7_with_33 rfl tw1107 ?_
        refine zV_callV (E' := eX7_finding (g_rmv 0)) (av := [.int (-1000004)]) (st := []) (b := 76) dX7_with_35 rfl (k_RX7_87 _) rfl ⟨by decide, by decide⟩ ⟨by decide, by decide⟩ (Or.inl rfl) rfl (Nat.le_of_ble_eq_true rfl) rfl rfl rfl (m_finding (w := 3) (by decide) (by decide)) (fun r35 M35 z => ?_)
        obtain ⟨rfl, rfl⟩ := z
        show zV G (eX7_with (g_rmv 6)) (0, 0) 38 [(0, .ref 76), (1, .int (nI p)), (2, .int (nI v)), (3, .int (-1))] [.int (fdg 3)] (mm (mTell I 3) J t) _
        refine zV_goto (tgt := 42) dX7_with_38 rfl ?_
        exact zV_ireturn dX7_with_42 rfl rfl (PM.tell hM (by decide) (by unfold op_with; rw [if_pos h4, if_pos h11, tn_nI (show p < 2 ^ 31 by omega), tn_nI (show v < 2 ^ 31 by omega), eo]) scM.rf)
      | some tt =>
        have hle2 := hle tt eo
        show zV G (eX7_with (g_rmv 6)) (0, 0) 28 [(0, .ref 76), (1, .int (nI p)), (2, .int (nI v)), (3, .int (nI tt))] [] (mm I J t) _
        refine zV_iload_n dX7_with_28 rfl 3 rfl rfl ?_
        refine zN_if_ge (tgt := 41) dX7_with_29 rfl (by omega) rfl ?_
        refine zV_iload_n dX7_with_41 rfl 3 rfl rfl ?_
        exact zV_ireturn dX7_with_42 rfl rfl (PM.same hM (by unfold op_with; rw [if_pos h4, if_pos h11, tn_nI (show p < 2 ^ 31 by omega), tn_nI (show v < 2 ^ 31 by omega), eo]) scM.rf)
    · refine zV_aload_n dX7_with_14 rfl 0 rfl rfl ?_
      refine zV_ldc (v := (-1000001)) dX7_with_15 rfl tw970 ?_
      refine zV_callV (E' := eX7_finding (g_rmv 0)) (av := [.int (-1000001)]) (st := []) (b := 76) dX7_with_17 rfl (k_RX7_87 _) rfl ⟨by decide, by decide⟩ ⟨by decide, by decide⟩ (Or.inl rfl) rfl (Nat.le_of_ble_eq_true rfl) rfl rfl rfl (m_finding (w := 0) (by decide) (by decide)) (fun r17 M17 z => ?_)
      obtain ⟨rfl, rfl⟩ := z
      show zV G (eX7_with (g_rmv 6)) (0, 0) 20 [(0, .ref 76), (1, .int x), (2, .int y)] [.int (fdg 0)] (mm (mTell I 0) J t) _
      exact zV_ireturn dX7_with_20 rfl rfl (PM.tell hM (by decide) (by unfold op_with; rw [if_pos h4, if_neg h11]) scM.rf)
