/-! THE REFERENCE: days go; ahead; draws; change; status; feed -/
set_option maxRecDepth 100000 in
theorem m_daysGo {G : mG} {I : Nat → Nat → Int32} {J : Nat → Nat → Int64} {t : Nat} {B : Nat} {σ : aL} (hR : absR I 77 σ) (hW : wfL B σ) {n : Nat} (hn : n ≤ 60) (hd : σ.2.2.2.1 + n ≤ 999) (hB : B + 122 < 1000000) : zC G yX7_daysGo (eX7_daysGo (g_rmv 4)) [.ref 76, .int (nI n)] (mm I J t) (fun r M => ∃ I', r = some (.int (nI (ld_daysN σ n))) ∧ M = mm I' J t ∧ absR I' 77 (ld_days σ n) ∧ frM I I') := by
  refine zC_of (by decide +kernel) rfl (by decide) (Nat.le_of_ble_eq_true rfl) ?_
  have n10 := hW.1
  show zV G (eX7_daysGo (g_rmv 4)) (0, 0) 0 [(0, .ref 76), (1, .int (nI n))] [] (mm I J t) _
  refine zV_iconst (v := (nI 0)) dX7_daysGo_0 rfl rfl ?_
  refine zV_istore_n (lv' := [(0, .ref 76), (1, .int (nI n)), (2, .int (nI 0))]) dX7_daysGo_1 rfl rfl (by decide) rfl ?_
  refine zV_iconst (v := (nI 0)) dX7_daysGo_2 rfl rfl ?_
  refine zV_istore_n (lv' := [(0, .ref 76), (1, .int (nI n)), (2, .int (nI 0)), (3, .int (nI 0))]) dX7_daysGo_3 rfl rfl (by decide) rfl ?_
  refine z_for (fun c => ∀ (I1 : Nat → Nat → Int32), (absR I1 77 (ld_days σ c) ∧ frM I I1) → zV G (eX7_daysGo (g_rmv 4)) (0, 0) 4 [(0, .ref 76), (1, .int (nI n)), (2, .int (nI (ld_daysN σ c))), (3, .int (nI c))] [] (mm I1 J t) _) n ?_ ?_ 0 (Nat.zero_le _) I ⟨hR, frM.rf⟩
  · intro I1 h1
    refine zV_iload_n dX7_daysGo_4 rfl 3 rfl rfl ?_
    refine zV_iload_n dX7_daysGo_5 rfl 1 rfl rfl ?_
    refine zN_icmp_ge (tgt := 77) dX7_daysGo_6 rfl rfl (by omega) (by omega) (fun _ => ?_) (fun z => absurd z (by omega))
    refine zV_iload_n dX7_daysGo_77 rfl 2 rfl rfl ?_
    exact zV_ireturn dX7_daysGo_78 rfl rfl (⟨I1, rfl, rfl, h1.1, h1.2⟩)
  · intro c hc ih
    intro I1 h1
    have hW1 := wf_days hW c (by omega) (by omega)
    have dd := ld_days_d σ c
    refine zV_iload_n dX7_daysGo_4 rfl 3 rfl rfl ?_
    refine zV_iload_n dX7_daysGo_5 rfl 1 rfl rfl ?_
    refine zN_icmp_ge (tgt := 77) dX7_daysGo_6 rfl rfl (by omega) (by omega) (fun z => absurd z (by omega)) (fun _ => ?_)
    refine zV_iconst (v := (nI 0)) dX7_daysGo_9 rfl rfl ?_
    refine zV_istore (lv' := [(0, .ref 76), (1, .int (nI n)), (2, .int (nI (ld_daysN σ c))), (3, .int (nI c)), (4, .int (nI 0))]) dX7_daysGo_10 rfl (by decide) rfl ?_
    by_cases h7 : (ld_days σ c).2.2.2.1 % 7 = 0
    · have e0 : ld_daysN σ c = ld_daysN σ c + fb_ct (fun d => decide ((ld_days σ c).2.1 d 4 = 1)) 0 := rfl
      refine z_for (fun d => ∀ (I2 : Nat → Nat → Int32), (absR I2 77 (ld_ship (ld_days σ c) d) ∧ frM I1 I2) → zV G (eX7_daysGo (g_rmv 4)) (0, 0) 12 [(0, .ref 76), (1, .int (nI n)), (2, .int (nI (ld_daysN σ c + fb_ct (fun d => decide ((ld_days σ c).2.1 d 4 = 1)) d))), (3, .int (nI c)), (4, .int (nI d))] [] (mm I2 J t) _) σ.1 ?_ ?_ 0 (Nat.zero_le _) I1 ⟨by rw [ld_ship_0]; exact h1.1, frM.rf⟩
      · intro I2 h2
        refine zV_iload dX7_daysGo_12 rfl 4 rfl ?_
        refine zV_aload_n dX7_daysGo_14 rfl 0 rfl rfl ?_
        refine zV_getr (q' := 77) 0 dX7_daysGo_15 rfl fl_RX7_9 rfl (by decide) rfl rfl ?_
        refine zV_iconst (v := (nI 1)) dX7_daysGo_18 rfl rfl ?_
        refine zV_iald (x := (nI σ.1)) 1 dX7_daysGo_19 rfl rfl rfl (by decide) (by decide) (h2.1.2.1.trans (congrArg nI (ld_days_n σ c))) ?_
        refine zN_icmp_ge (tgt := 61) dX7_daysGo_20 rfl rfl (by omega) (by omega) (fun _ => ?_) (fun z => absurd z (by omega))
        refine zV_aload_n dX7_daysGo_61 rfl 0 rfl rfl ?_
        refine zV_getr (q' := 77) 0 dX7_daysGo_62 rfl fl_RX7_9 rfl (by decide) rfl rfl ?_
        refine zV_iconst (v := (nI 0)) dX7_daysGo_65 rfl rfl ?_
        refine zV_dup2 dX7_daysGo_66 rfl rfl rfl ?_
        refine zV_iald (x := (nI ((ld_days σ c).2.2.2.1))) 0 dX7_daysGo_67 rfl rfl rfl (by decide) (by decide) h2.1.1 ?_
        refine zV_iconst (v := (nI 1)) dX7_daysGo_68 rfl rfl ?_
        refine zA_iadd (z := (nI ((ld_days σ c).2.2.2.1 + 1))) dX7_daysGo_69 rfl  (nI_add _ _) ?_
        refine zV_iastore 0 dX7_daysGo_70 rfl rfl rfl (by decide) (by decide)  ?_
        refine zV_iinc (y := (nI (c + 1))) (lv' := [(0, .ref 76), (1, .int (nI n)), (2, .int (nI (ld_daysN σ c + fb_ct (fun d => decide ((ld_days σ c).2.1 d 4 = 1)) σ.1))), (3, .int (nI (c + 1))), (4, .int (nI σ.1))]) dX7_daysGo_71 rfl 3 rfl (nI_1 _) (by decide) rfl ?_
        refine zV_goto (tgt := 4) dX7_daysGo_74 rfl ?_
        refine zV_keep (lv' := [(0, .ref 76), (1, .int (nI n)), (2, .int (nI (ld_daysN σ c + fb_ct (fun d => decide ((ld_days σ c).2.1 d 4 = 1)) σ.1))), (3, .int (nI (c + 1)))]) [0, 1, 2, 3] rfl ?_
        rw [show ld_daysN σ (c + 1) = (ld_daysN σ c + fb_ct (fun d => decide ((ld_days σ c).2.1 d 4 = 1)) σ.1) by show ld_daysN σ c + (if _ then _ else _) = _; rw [if_pos h7, ld_shipN, ld_days_n]] at ih
        exact ih _ ⟨by rw [show ld_days σ (c + 1) = ld_day (ld_ship (ld_days σ c) (ld_days σ c).1) ((ld_days σ c).2.2.2.1 + 1) from if_pos h7]; rw [show (ld_days σ c).1 = σ.1 from ld_days_n σ c]; exact h2.1.day, h1.2.tr (h2.2.tr frM.up)⟩
      · intro d hd ih2
        intro I2 h2
        have hW2 := wf_ship hW1 (by omega) d
        have wd := hW1.2.1 d (by rw [ld_days_n]; exact hd)
        have wd4 := wd.2.2.2.2.1
        refine zV_iload dX7_daysGo_12 rfl 4 rfl ?_
        refine zV_aload_n dX7_daysGo_14 rfl 0 rfl rfl ?_
        refine zV_getr (q' := 77) 0 dX7_daysGo_15 rfl fl_RX7_9 rfl (by decide) rfl rfl ?_
        refine zV_iconst (v := (nI 1)) dX7_daysGo_18 rfl rfl ?_
        refine zV_iald (x := (nI σ.1)) 1 dX7_daysGo_19 rfl rfl rfl (by decide) (by decide) (h2.1.2.1.trans (congrArg nI (ld_days_n σ c))) ?_
        refine zN_icmp_ge (tgt := 61) dX7_daysGo_20 rfl rfl (by omega) (by omega) (fun z => absurd z (by omega)) (fun _ => ?_)
        refine zV_aload_n dX7_daysGo_23 rfl 0 rfl rfl ?_
        refine zV_getr (q' := 77) 0 dX7_daysGo_24 rfl fl_RX7_9 rfl (by decide) rfl rfl ?_
        refine zV_iconst (v := (nI 0)) dX7_daysGo_27 rfl rfl ?_
        refine zV_iald (x := (nI ((ld_days σ c).2.2.2.1))) 0 dX7_daysGo_28 rfl rfl rfl (by decide) (by decide) h2.1.1 ?_
        refine zV_bipush (v := (nI 7)) dX7_daysGo_29 rfl rfl ?_
        refine zA_irem (z := (nI ((ld_days σ c).2.2.2.1 % 7))) dX7_daysGo_31 rfl (by decide) (pk_rem (by omega) (by omega) (by omega)) ?_
        refine zN_if_ne (tgt := 61) dX7_daysGo_32 rfl rfl (by omega) (fun z => absurd z (by omega)) (fun _ => ?_)
        refine zV_aload_n dX7_daysGo_35 rfl 0 rfl rfl ?_
        refine zV_iload dX7_daysGo_36 rfl 4 rfl ?_
        refine zV_iconst (v := (nI 4)) dX7_daysGo_38 rfl rfl ?_
        refine zV_callV (E' := eX7_coinIs (g_rmv 1)) (av := [.int (nI d), .int (nI 4)]) (st := []) (b := 76) dX7_daysGo_39 rfl (k_RX7_99 _) rfl ⟨by decide, by decide⟩ ⟨by decide, by decide⟩ (Or.inl rfl) rfl (Nat.le_of_ble_eq_true rfl) rfl rfl rfl (m_coinIs (σ := ld_ship (ld_days σ c) d) (c := d) (f := 4) h2.1 hW2 (by show d < (ld_days σ c).1; rw [ld_days_n]; exact hd) (by decide)) (fun r39 M39 z => ?_)
        obtain ⟨rfl, rfl⟩ := z
        rw [ld_ship_at]
        show zV G (eX7_daysGo (g_rmv 4)) (0, 0) 42 [(0, .ref 76), (1, .int (nI n)), (2, .int (nI (ld_daysN σ c + fb_ct (fun d => decide ((ld_days σ c).2.1 d 4 = 1)) d))), (3, .int (nI c)), (4, .int (nI d))] [.int (nI ((ld_days σ c).2.1 d 4))] (mm I2 J t) _
        refine zV_iconst (v := (nI 1)) dX7_daysGo_42 rfl rfl ?_
        refine zN_icmp_ne (tgt := 55) dX7_daysGo_43 rfl rfl (by omega) (by omega) (fun h43 => ?_) (fun h43 => ?_)
        · refine zV_iinc (y := (nI (d + 1))) (lv' := [(0, .ref 76), (1, .int (nI n)), (2, .int (nI (ld_daysN σ c + fb_ct (fun d => decide ((ld_days σ c).2.1 d 4 = 1)) d))), (3, .int (nI c)), (4, .int (nI (d + 1)))]) dX7_daysGo_55 rfl 4 rfl (nI_1 _) (by decide) rfl ?_
          refine zV_goto (tgt := 12) dX7_daysGo_58 rfl ?_
          rw [show ld_daysN σ c + fb_ct (fun d => decide ((ld_days σ c).2.1 d 4 = 1)) (d + 1) = (ld_daysN σ c + fb_ct (fun d => decide ((ld_days σ c).2.1 d 4 = 1)) d) by rw [fb_ct_succ]; simp [h43]] at ih2
          exact ih2 I2 ⟨by rw [ld_ship_f h43]; exact h2.1, h2.2⟩
        · refine zV_iinc (y := (nI ((ld_daysN σ c + fb_ct (fun d => decide ((ld_days σ c).2.1 d 4 = 1)) d) + 1))) (lv' := [(0, .ref 76), (1, .int (nI n)), (2, .int (nI ((ld_daysN σ c + fb_ct (fun d => decide ((ld_days σ c).2.1 d 4 = 1)) d) + 1))), (3, .int (nI c)), (4, .int (nI d))]) dX7_daysGo_46 rfl 2 rfl (nI_1 _) (by decide) rfl ?_
          refine zV_aload_n dX7_daysGo_49 rfl 0 rfl rfl ?_
          refine zV_iload dX7_daysGo_50 rfl 4 rfl ?_
          refine zV_callV (E' := eX7_turnsOver (g_rmv 3)) (av := [.int (nI d)]) (st := []) (b := 76) dX7_daysGo_52 rfl (k_RX7_120 _) rfl ⟨by decide, by decide⟩ ⟨by decide, by decide⟩ (Or.inl rfl) rfl (Nat.le_of_ble_eq_true rfl) rfl rfl rfl (m_turnsOver (σ := ld_ship (ld_days σ c) d) (c := d) h2.1 hW2 (by show d < (ld_days σ c).1; rw [ld_days_n]; exact hd)) (fun r52 M52 z => ?_)
          obtain ⟨I52, rfl, rfl, hR52, hF52⟩ := z
          show zV G (eX7_daysGo (g_rmv 4)) (0, 0) 55 [(0, .ref 76), (1, .int (nI n)), (2, .int (nI ((ld_daysN σ c + fb_ct (fun d => decide ((ld_days σ c).2.1 d 4 = 1)) d) + 1))), (3, .int (nI c)), (4, .int (nI d))] [] (mm I52 J t) _
          refine zV_iinc (y := (nI (d + 1))) (lv' := [(0, .ref 76), (1, .int (nI n)), (2, .int (nI ((ld_daysN σ c + fb_ct (fun d => decide ((ld_days σ c).2.1 d 4 = 1)) d) + 1))), (3, .int (nI c)), (4, .int (nI (d + 1)))]) dX7_daysGo_55 rfl 4 rfl (nI_1 _) (by decide) rfl ?_
          refine zV_goto (tgt := 12) dX7_daysGo_58 rfl ?_
          rw [show ld_daysN σ c + fb_ct (fun d => decide ((ld_days σ c).2.1 d 4 = 1)) (d + 1) = ((ld_daysN σ c + fb_ct (fun d => decide ((ld_days σ c).2.1 d 4 = 1)) d) + 1) by rw [fb_ct_succ]; simp [h43]; omega] at ih2
          exact ih2 I52 ⟨by rw [ld_ship_t h43]; rw [ld_ship_at] at hR52; exact hR52, h2.2.tr hF52⟩
    · refine zV_iload dX7_daysGo_12 rfl 4 rfl ?_
      refine zV_aload_n dX7_daysGo_14 rfl 0 rfl rfl ?_
      refine zV_getr (q' := 77) 0 dX7_daysGo_15 rfl fl_RX7_9 rfl (by decide) rfl rfl ?_
      refine zV_iconst (v := (nI 1)) dX7_daysGo_18 rfl rfl ?_
      refine zV_iald (x := (nI σ.1)) 1 dX7_daysGo_19 rfl rfl rfl (by decide) (by decide) (h1.1.2.1.trans (congrArg nI (ld_days_n σ c))) ?_
      refine zN_icmp_ge (tgt := 61) dX7_daysGo_20 rfl rfl (by omega) (by omega) (fun h20 => ?_) (fun h20 => ?_)
      · refine zV_aload_n dX7_daysGo_61 rfl 0 rfl rfl ?_
        refine zV_getr (q' := 77) 0 dX7_daysGo_62 rfl fl_RX7_9 rfl (by decide) rfl rfl ?_
        refine zV_iconst (v := (nI 0)) dX7_daysGo_65 rfl rfl ?_
        refine zV_dup2 dX7_daysGo_66 rfl rfl rfl ?_
        refine zV_iald (x := (nI ((ld_days σ c).2.2.2.1))) 0 dX7_daysGo_67 rfl rfl rfl (by decide) (by decide) h1.1.1 ?_
        refine zV_iconst (v := (nI 1)) dX7_daysGo_68 rfl rfl ?_
        refine zA_iadd (z := (nI ((ld_days σ c).2.2.2.1 + 1))) dX7_daysGo_69 rfl  (nI_add _ _) ?_
        refine zV_iastore 0 dX7_daysGo_70 rfl rfl rfl (by decide) (by decide)  ?_
        refine zV_iinc (y := (nI (c + 1))) (lv' := [(0, .ref 76), (1, .int (nI n)), (2, .int (nI (ld_daysN σ c))), (3, .int (nI (c + 1))), (4, .int (nI 0))]) dX7_daysGo_71 rfl 3 rfl (nI_1 _) (by decide) rfl ?_
        refine zV_goto (tgt := 4) dX7_daysGo_74 rfl ?_
        refine zV_keep (lv' := [(0, .ref 76), (1, .int (nI n)), (2, .int (nI (ld_daysN σ c))), (3, .int (nI (c + 1)))]) [0, 1, 2, 3] rfl ?_
        rw [show ld_daysN σ (c + 1) = (ld_daysN σ c) by show ld_daysN σ c + (if _ then _ else _) = _; rw [if_neg h7]; rfl] at ih
        exact ih _ ⟨by rw [show ld_days σ (c + 1) = ld_day (ld_days σ c) ((ld_days σ c).2.2.2.1 + 1) from if_neg h7]; exact h1.1.day, h1.2.tr frM.up⟩
      · refine zV_aload_n dX7_daysGo_23 rfl 0 rfl rfl ?_
        refine zV_getr (q' := 77) 0 dX7_daysGo_24 rfl fl_RX7_9 rfl (by decide) rfl rfl ?_
        refine zV_iconst (v := (nI 0)) dX7_daysGo_27 rfl rfl ?_
        refine zV_iald (x := (nI ((ld_days σ c).2.2.2.1))) 0 dX7_daysGo_28 rfl rfl rfl (by decide) (by decide) h1.1.1 ?_
        refine zV_bipush (v := (nI 7)) dX7_daysGo_29 rfl rfl ?_
        refine zA_irem (z := (nI ((ld_days σ c).2.2.2.1 % 7))) dX7_daysGo_31 rfl (by decide) (pk_rem (by omega) (by omega) (by omega)) ?_
        refine zN_if_ne (tgt := 61) dX7_daysGo_32 rfl rfl (by omega) (fun _ => ?_) (fun z => absurd z (by omega))
        refine zV_aload_n dX7_daysGo_61 rfl 0 rfl rfl ?_
        refine zV_getr (q' := 77) 0 dX7_daysGo_62 rfl fl_RX7_9 rfl (by decide) rfl rfl ?_
        refine zV_iconst (v := (nI 0)) dX7_daysGo_65 rfl rfl ?_
        refine zV_dup2 dX7_daysGo_66 rfl rfl rfl ?_
        refine zV_iald (x := (nI ((ld_days σ c).2.2.2.1))) 0 dX7_daysGo_67 rfl rfl rfl (by decide) (by decide) h1.1.1 ?_
        refine zV_iconst (v := (nI 1)) dX7_daysGo_68 rfl rfl ?_
        refine zA_iadd (z := (nI ((ld_days σ c).2.2.2.1 + 1))) dX7_daysGo_69 rfl  (nI_add _ _) ?_
        refine zV_iastore 0 dX7_daysGo_70 rfl rfl rfl (by decide) (by decide)  ?_
        refine zV_iinc (y := (nI (c + 1))) (lv' := [(0, .ref 76), (1, .int (nI n)), (2, .int (nI (ld_daysN σ c))), (3, .int (nI (c + 1))), (4, .int (nI 0))]) dX7_daysGo_71 rfl 3 rfl (nI_1 _) (by decide) rfl ?_
        refine zV_goto (tgt := 4) dX7_daysGo_74 rfl ?_
        refine zV_keep (lv' := [(0, .ref 76), (1, .int (nI n)), (2, .int (nI (ld_daysN σ c))), (3, .int (nI (c + 1)))]) [0, 1, 2, 3] rfl ?_
        rw [show ld_daysN σ (c + 1) = (ld_daysN σ c) by show ld_daysN σ c + (if _ then _ else _) = _; rw [if_neg h7]; rfl] at ih
        exact ih _ ⟨by rw [show ld_days σ (c + 1) = ld_day (ld_days σ c) ((ld_days σ c).2.2.2.1 + 1) from if_neg h7]; exact h1.1.day, h1.2.tr frM.up⟩

set_option maxRecDepth 100000 in
theorem q_days {G : mG} {I : Nat → Nat → Int32} {J : Nat → Nat → Int64} {t : Nat} {B : Nat} {S : aS} (hM : InvM I S) (hw : wfS B S) (hB : B + 122 < 1000000) {x : Int32} : zC G yX7_days (eX7_days (g_rmv 5)) [.ref 76, .int x] (mm I J t) (fun r M => PM I (op_days S x) r M) := by
  refine zC_of (by decide +kernel) rfl (by decide) (Nat.le_of_ble_eq_true rfl) ?_
  have n10 := hw.1.1
  have d9 := hw.1.2.2.1
  show zV G (eX7_days (g_rmv 5)) (0, 0) 0 [(0, .ref 76), (1, .int x)] [] (mm I J t) _
  refine zV_iload_n dX7_days_0 rfl 1 rfl rfl ?_
  refine zV_iconst (v := (nI 1)) dX7_days_1 rfl rfl ?_
  refine zV_bipush (v := (nI 60)) dX7_days_2 rfl rfl ?_
  refine zV_callS (E' := eX7_within (g_rmv 0)) (av := [.int x, .int (nI 1), .int (nI 60)]) (st := []) dX7_days_4 rfl (k_RX7_72 _) rfl ⟨by decide, by decide⟩ ⟨by decide, by decide⟩ (Or.inl rfl) rfl (Nat.le_of_ble_eq_true rfl) (m_within (x := x) (y := (nI 1)) (z := (nI 60))) (fun r4 M4 z => ?_)
  obtain ⟨rfl, rfl⟩ := z
  show zV G (eX7_days (g_rmv 5)) (0, 0) 7 [(0, .ref 76), (1, .int x)] [.int (b2 ((nI 1) ≤ x ∧ x ≤ (nI 60)))] (mm I J t) _
  refine zB_if_ne (tgt := 17) dX7_days_7 rfl rfl  (fun h7 => ?_) (fun h7 => ?_)
  · obtain ⟨n, hn1, hn2, rfl⟩ := z_rng (by decide) (by decide) h7
    refine zV_aload_n dX7_days_17 rfl 0 rfl rfl ?_
    refine zV_getr (q' := 77) 0 dX7_days_18 rfl fl_RX7_9 rfl (by decide) rfl rfl ?_
    refine zV_iconst (v := (nI 0)) dX7_days_21 rfl rfl ?_
    refine zV_iald (x := (nI S.1.2.2.2.1)) 0 dX7_days_22 rfl rfl rfl (by decide) (by decide) hM.1.1 ?_
    refine zV_iload_n dX7_days_23 rfl 1 rfl rfl ?_
    refine zA_iadd (z := (nI (S.1.2.2.2.1 + n))) dX7_days_24 rfl  (nI_add _ _) ?_
    refine zV_sipush (v := (nI 999)) dX7_days_25 rfl rfl ?_
    refine zN_icmp_le (tgt := 40) dX7_days_28 rfl rfl (by omega) (by omega) (fun h28 => ?_) (fun h28 => ?_)
    · refine zV_aload_n dX7_days_40 rfl 0 rfl rfl ?_
      refine zV_iload_n dX7_days_41 rfl 1 rfl rfl ?_
      refine zV_callV (E' := eX7_daysGo (g_rmv 4)) (av := [.int (nI n)]) (st := []) (b := 76) dX7_days_42 rfl (k_RX7_220 _) rfl ⟨by decide, by decide⟩ ⟨by decide, by decide⟩ (Or.inl rfl) rfl (Nat.le_of_ble_eq_true rfl) rfl rfl rfl (m_daysGo (n := n) hM.1 hw.1 (by omega) (by omega) (by omega)) (fun r42 M42 z => ?_)
      obtain ⟨I42, rfl, rfl, hR42, hF42⟩ := z
      show zV G (eX7_days (g_rmv 5)) (0, 0) 45 [(0, .ref 76), (1, .int (nI n))] [.int (nI (ld_daysN S.1 n))] (mm I42 J t) _
      exact zV_ireturn dX7_days_45 rfl rfl (PM.land hM (by unfold op_days; rw [if_pos h7, tn_nI (show n < 2 ^ 31 by omega), if_pos (show S.1.2.2.2.1 + n ≤ 999 by omega)]) scM.rf hR42 hF42)
    · refine zV_aload_n dX7_days_31 rfl 0 rfl rfl ?_
      refine zV_ldc (v := (-1000005)) dX7_days_32 rfl tw1079 ?_
      refine zV_callV (E' := eX7_finding (g_rmv 0)) (av := [.int (-1000005)]) (st := []) (b := 76) dX7_days_34 rfl (k_RX7_87 _) rfl ⟨by decide, by decide⟩ ⟨by decide, by decide⟩ (Or.inl rfl) rfl (Nat.le_of_ble_eq_true rfl) rfl rfl rfl (m_finding (w := 4) (by decide) (by decide)) (fun r34 M34 z => ?_)
      obtain ⟨rfl, rfl⟩ := z
      show zV G (eX7_days (g_rmv 5)) (0, 0) 37 [(0, .ref 76), (1, .int (nI n))] [.int (fdg 4)] (mm (mTell I 4) J t) _
      refine zV_goto (tgt := 45) dX7_days_37 rfl ?_
      exact zV_ireturn dX7_days_45 rfl rfl (PM.tell hM (by decide) (by unfold op_days; rw [if_pos h7, tn_nI (show n < 2 ^ 31 by omega), if_neg (show ¬ S.1.2.2.2.1 + n ≤ 999 by omega)]) scM.rf)
  · refine zV_aload_n dX7_days_10 rfl 0 rfl rfl ?_
    refine zV_ldc (v := (-1000001)) dX7_days_11 rfl tw970 ?_
    refine zV_callV (E' := eX7_finding (g_rmv 0)) (av := [.int (-1000001)]) (st := []) (b := 76) dX7_days_13 rfl (k_RX7_87 _) rfl ⟨by decide, by decide⟩ ⟨by decide, by decide⟩ (Or.inl rfl) rfl (Nat.le_of_ble_eq_true rfl) rfl rfl rfl (m_finding (w := 0) (by decide) (by decide)) (fun r13 M13 z => ?_)
    obtain ⟨rfl, rfl⟩ := z
    show zV G (eX7_days (g_rmv 5)) (0, 0) 16 [(0, .ref 76), (1, .int x)] [.int (fdg 0)] (mm (mTell I 0) J t) _
    exact zV_ireturn dX7_days_16 rfl rfl (PM.tell hM (by decide) (by unfold op_days; rw [if_neg h7]) scM.rf)

theorem ld_daysN_le {B : Nat} {σ : aL} (h : wfL B σ) : ∀ i, ld_daysN σ i ≤ 10 * i
  | 0 => Nat.le_refl _
  | i + 1 => by
    have h1 := ld_daysN_le h i
    have h2 : ld_d1n (ld_days σ i) ≤ 10 := by
      unfold ld_d1n
      split
      · have h3 := fb_ct_le (fun c => decide ((ld_days σ i).2.1 c 4 = 1)) (ld_days σ i).1
        rw [ld_days_n] at h3
        have h4 := h.1
        unfold ld_shipN
        rw [ld_days_n]
        omega
      · omega
    show ld_daysN σ i + ld_d1n (ld_days σ i) ≤ _
    omega
/-- the row was put aside and back -/
theorem PM.back {I I1 : Nat → Nat → Int32} {J : Nat → Nat → Int64} {t B : Nat} {S : aS} {o : Int32 × aS} {v : Int32} (h : InvM I S) (hw : wfS B S) (e : o = (v, S)) (hr : ∀ j, j < 73 → I1 77 j = I 77 j) (hf : ∀ i, i ≠ 77 → i ≠ 79 → I1 i = I i) : PM I o (some (.int v)) (mm I1 J t) := by
  subst e
  obtain ⟨h1, h2, h3, h4, h5, h6, h7⟩ := h
  refine ⟨_, _, _, rfl, rfl, ⟨h1.cp hw.1.1 hr, ?_, fun k => (h3 k).mv (hf _ (by decide) (by decide)), ?_, ?_, ?_, ?_⟩, fun i hi => hf i (by omega) (by omega)⟩
  · rw [hf _ (by decide) (by decide)]; exact h2
  · rw [hf _ (by decide) (by decide)]; exact h4
  · rw [hf _ (by decide) (by decide)]; exact h5
  · rw [hf _ (by decide) (by decide)]; exact h6
  · rw [hf _ (by decide) (by decide), hf _ (by decide) (by decide), hf _ (by decide) (by decide)]; exact h7
set_option maxRecDepth 100000 in
theorem q_ahead {G : mG} {I : Nat → Nat → Int32} {J : Nat → Nat → Int64} {t : Nat} {B : Nat} {S : aS} (hM : InvM I S) (hw : wfS B S) (hB : B + 122 < 1000000) {x y : Int32} : zC G yX7_ahead (eX7_ahead (g_rmv 5)) [.ref 76, .int x, .int y] (mm I J t) (fun r M => PM I (op_ahead S x y) r M) := by
  refine zC_of (by decide +kernel) rfl (by decide) (Nat.le_of_ble_eq_true rfl) ?_
  have n10 := hw.1.1
  have d9 := hw.1.2.2.1
  show zV G (eX7_ahead (g_rmv 5)) (0, 0) 0 [(0, .ref 76), (1, .int x), (2, .int y)] [] (mm I J t) _
  refine zV_iload_n dX7_ahead_0 rfl 1 rfl rfl ?_
  refine zV_callS (E' := eX7_isPurse (g_rmv 1)) (av := [.int x]) (st := []) dX7_ahead_1 rfl (k_RX7_76 _) rfl ⟨by decide, by decide⟩ ⟨by decide, by decide⟩ (Or.inl rfl) rfl (Nat.le_of_ble_eq_true rfl) (m_isPurse (x := x)) (fun r1 M1 z => ?_)
  obtain ⟨rfl, rfl⟩ := z
  show zV G (eX7_ahead (g_rmv 5)) (0, 0) 4 [(0, .ref 76), (1, .int x), (2, .int y)] [.int (b2 (inR x 3))] (mm I J t) _
  refine zB_if_eq (tgt := 17) dX7_ahead_4 rfl rfl  (fun h4 => ?_) (fun h4 => ?_)
  · refine zV_aload_n dX7_ahead_17 rfl 0 rfl rfl ?_
    refine zV_ldc (v := (-1000001)) dX7_ahead_18 rfl tw970 ?_
    refine zV_callV (E' := eX7_finding (g_rmv 0)) (av := [.int (-1000001)]) (st := []) (b := 76) dX7_ahead_20 rfl (k_RX7_87 _) rfl ⟨by decide, by decide⟩ ⟨by decide, by decide⟩ (Or.inl rfl) rfl (Nat.le_of_ble_eq_true rfl) rfl rfl rfl (m_finding (w := 0) (by decide) (by decide)) (fun r20 M20 z => ?_)
    obtain ⟨rfl, rfl⟩ := z
    show zV G (eX7_ahead (g_rmv 5)) (0, 0) 23 [(0, .ref 76), (1, .int x), (2, .int y)] [.int (fdg 0)] (mm (mTell I 0) J t) _
    exact zV_ireturn dX7_ahead_23 rfl rfl (PM.tell hM (by decide) (by unfold op_ahead; rw [if_neg h4]) scM.rf)
  · refine zV_iload_n dX7_ahead_7 rfl 2 rfl rfl ?_
    refine zV_iconst (v := (nI 0)) dX7_ahead_8 rfl rfl ?_
    refine zV_bipush (v := (nI 60)) dX7_ahead_9 rfl rfl ?_
    refine zV_callS (E' := eX7_within (g_rmv 0)) (av := [.int y, .int (nI 0), .int (nI 60)]) (st := []) dX7_ahead_11 rfl (k_RX7_72 _) rfl ⟨by decide, by decide⟩ ⟨by decide, by decide⟩ (Or.inl rfl) rfl (Nat.le_of_ble_eq_true rfl) (m_within (x := y) (y := (nI 0)) (z := (nI 60))) (fun r11 M11 z => ?_)
    obtain ⟨rfl, rfl⟩ := z
    show zV G (eX7_ahead (g_rmv 5)) (0, 0) 14 [(0, .ref 76), (1, .int x), (2, .int y)] [.int (b2 (inR y 60))] (mm I J t) _
    refine zB_if_ne (tgt := 24) dX7_ahead_14 rfl rfl  (fun h14 => ?_) (fun h14 => ?_)
    · obtain ⟨p, hp, rfl⟩ := (inR_iff (by decide)).mp h4
      obtain ⟨n, hn, rfl⟩ := (inR_iff (by decide)).mp h14
      refine zV_aload_n dX7_ahead_24 rfl 0 rfl rfl ?_
      refine zV_getr (q' := 77) 0 dX7_ahead_25 rfl fl_RX7_9 rfl (by decide) rfl rfl ?_
      refine zV_iconst (v := (nI 0)) dX7_ahead_28 rfl rfl ?_
      refine zV_iald (x := (nI S.1.2.2.2.1)) 0 dX7_ahead_29 rfl rfl rfl (by decide) (by decide) hM.1.1 ?_
      refine zV_iload_n dX7_ahead_30 rfl 2 rfl rfl ?_
      refine zA_iadd (z := (nI (S.1.2.2.2.1 + n))) dX7_ahead_31 rfl  (nI_add _ _) ?_
      refine zV_sipush (v := (nI 999)) dX7_ahead_32 rfl rfl ?_
      refine zN_icmp_le (tgt := 45) dX7_ahead_35 rfl rfl (by omega) (by omega) (fun h35 => ?_) (fun h35 => ?_)
      · refine zV_aload_n dX7_ahead_45 rfl 0 rfl rfl ?_
        refine zV_getr (q' := 77) 0 dX7_ahead_46 rfl fl_RX7_9 rfl (by decide) rfl rfl ?_
        refine zV_aload_n dX7_ahead_49 rfl 0 rfl rfl ?_
        refine zV_getr (q' := 79) 2 dX7_ahead_50 rfl fl_RX7_16 rfl (by decide) rfl rfl ?_
        refine zV_callS (E' := eX7_copyRow (g_rmv 0)) (av := [.ref 77, .ref 79]) (st := []) dX7_ahead_53 rfl (k_RX7_68 _) rfl ⟨by decide, by decide⟩ ⟨by decide, by decide⟩ (Or.inl rfl) rfl (Nat.le_of_ble_eq_true rfl) (m_copyRow rfl rfl (by decide)) (fun r53 M53 z => ?_)
        obtain ⟨I53, rfl, rfl, hX53, hF53⟩ := z
        show zV G (eX7_ahead (g_rmv 5)) (0, 0) 56 [(0, .ref 76), (1, .int (nI p)), (2, .int (nI n))] [] (mm I53 J t) _
        refine zV_aload_n dX7_ahead_56 rfl 0 rfl rfl ?_
        refine zV_iload_n dX7_ahead_57 rfl 2 rfl rfl ?_
        refine zV_callV (E' := eX7_daysGo (g_rmv 4)) (av := [.int (nI n)]) (st := []) (b := 76) dX7_ahead_58 rfl (k_RX7_220 _) rfl ⟨by decide, by decide⟩ ⟨by decide, by decide⟩ (Or.inl rfl) rfl (Nat.le_of_ble_eq_true rfl) rfl rfl rfl (m_daysGo (n := n) (hM.1.mv (hF53 77 (by decide))) hw.1 (by omega) (by omega) (by omega)) (fun r58 M58 z => ?_)
        obtain ⟨I58, rfl, rfl, hR58, hF58⟩ := z
        have hW58 := wf_days hw.1 n (by omega) (by omega)
        have e58 := ld_days_n S.1 n
        have l58 := ld_daysN_le hw.1 n
        show zV G (eX7_ahead (g_rmv 5)) (0, 0) 61 [(0, .ref 76), (1, .int (nI p)), (2, .int (nI n))] [.int (nI (ld_daysN S.1 n))] (mm I58 J t) _
        refine zV_istore_n (lv' := [(0, .ref 76), (1, .int (nI p)), (2, .int (nI n)), (3, .int (nI (ld_daysN S.1 n)))]) dX7_ahead_61 rfl rfl (by decide) rfl ?_
        refine zV_aload_n dX7_ahead_62 rfl 0 rfl rfl ?_
        refine zV_iload_n dX7_ahead_63 rfl 3 rfl rfl ?_
        refine zN_if_ge (tgt := 71) dX7_ahead_64 rfl (by omega) rfl ?_
        refine zV_aload_n dX7_ahead_71 rfl 0 rfl rfl ?_
        refine zV_aload_n dX7_ahead_72 rfl 0 rfl rfl ?_
        refine zV_iload_n dX7_ahead_73 rfl 1 rfl rfl ?_
        refine zV_callV (E' := eX7_setOf (g_rmv 2)) (av := [.int (nI p)]) (st := [.ref 76, .ref 76]) (b := 76) dX7_ahead_74 rfl (k_RX7_139 _) rfl ⟨by decide, by decide⟩ ⟨by decide, by decide⟩ (Or.inl rfl) rfl (Nat.le_of_ble_eq_true rfl) rfl rfl rfl (m_setOf (p := p) hR58 hW58 (by omega)) (fun r74 M74 z => ?_)
        obtain ⟨rfl, rfl⟩ := z
        show zV G (eX7_ahead (g_rmv 5)) (0, 0) 77 [(0, .ref 76), (1, .int (nI p)), (2, .int (nI n)), (3, .int (nI (ld_daysN S.1 n)))] [.int (nI (ld_in (ld_days S.1 n) p)), .ref 76, .ref 76] (mm I58 J t) _
        refine zV_callV (E' := eX7_sumOf (g_rmv 4)) (av := [.int (nI (ld_in (ld_days S.1 n) p))]) (st := [.ref 76]) (b := 76) dX7_ahead_77 rfl (k_RX7_142 _) rfl ⟨by decide, by decide⟩ ⟨by decide, by decide⟩ (Or.inl rfl) rfl (Nat.le_of_ble_eq_true rfl) rfl rfl rfl (m_sumOf (s := (ld_in (ld_days S.1 n) p)) hR58 hW58 (Nat.lt_trans (ld_in_lt (by omega) _) (by decide))) (fun r77 M77 z => ?_)
        obtain ⟨rfl, rfl⟩ := z
        show zV G (eX7_ahead (g_rmv 5)) (0, 0) 80 [(0, .ref 76), (1, .int (nI p)), (2, .int (nI n)), (3, .int (nI (ld_daysN S.1 n)))] [.int (nI (ld_sum (ld_days S.1 n) (ld_in (ld_days S.1 n) p))), .ref 76] (mm I58 J t) _
        refine zV_callV (E' := eX7_putBack (g_rmv 1)) (av := [.int (nI (ld_sum (ld_days S.1 n) (ld_in (ld_days S.1 n) p)))]) (st := []) (b := 76) dX7_ahead_80 rfl (k_RX7_211 _) rfl ⟨by decide, by decide⟩ ⟨by decide, by decide⟩ (Or.inl rfl) rfl (Nat.le_of_ble_eq_true rfl) rfl rfl rfl (m_putBack (x := (nI (ld_sum (ld_days S.1 n) (ld_in (ld_days S.1 n) p))))) (fun r80 M80 z => ?_)
        obtain ⟨I80, rfl, rfl, hX80, hF80⟩ := z
        show zV G (eX7_ahead (g_rmv 5)) (0, 0) 83 [(0, .ref 76), (1, .int (nI p)), (2, .int (nI n)), (3, .int (nI (ld_daysN S.1 n)))] [.int (nI (ld_sum (ld_days S.1 n) (ld_in (ld_days S.1 n) p)))] (mm I80 J t) _
        exact zV_ireturn dX7_ahead_83 rfl rfl (PM.back hM hw (by unfold op_ahead; rw [if_pos h4, if_pos h14, tn_nI (show n < 2 ^ 31 by omega), if_pos (show S.1.2.2.2.1 + n ≤ 999 by omega), tn_nI (show p < 2 ^ 31 by omega)]) (fun j hj => by rw [hX80 j hj, hF58 79 (by decide), hX53 j hj]) (fun i h77 h79 => by rw [hF80 i h77, hF58 i h77, hF53 i h79]))
      · refine zV_aload_n dX7_ahead_38 rfl 0 rfl rfl ?_
        refine zV_ldc (v := (-1000005)) dX7_ahead_39 rfl tw1079 ?_
        refine zV_callV (E' := eX7_finding (g_rmv 0)) (av := [.int (-1000005)]) (st := []) (b := 76) dX7_ahead_41 rfl (k_RX7_87 _) rfl ⟨by decide, by decide⟩ ⟨by decide, by decide⟩ (Or.inl rfl) rfl (Nat.le_of_ble_eq_true rfl) rfl rfl rfl (m_finding (w := 4) (by decide) (by decide)) (fun r41 M41 z => ?_)
        obtain ⟨rfl, rfl⟩ := z
        show zV G (eX7_ahead (g_rmv 5)) (0, 0) 44 [(0, .ref 76), (1, .int (nI p)), (2, .int (nI n))] [.int (fdg 4)] (mm (mTell I 4) J t) _
        exact zV_ireturn dX7_ahead_44 rfl rfl (PM.tell hM (by decide) (by unfold op_ahead; rw [if_pos h4, if_pos h14, tn_nI (show n < 2 ^ 31 by omega), if_neg (show ¬ S.1.2.2.2.1 + n ≤ 999 by omega)]) scM.rf)
    · refine zV_aload_n dX7_ahead_17 rfl 0 rfl rfl ?_
      refine zV_ldc (v := (-1000001)) dX7_ahead_18 rfl tw970 ?_
      refine zV_callV (E' := eX7_finding (g_rmv 0)) (av := [.int (-1000001)]) (st := []) (b := 76) dX7_ahead_20 rfl (k_RX7_87 _) rfl ⟨by decide, by decide⟩ ⟨by decide, by decide⟩ (Or.inl rfl) rfl (Nat.le_of_ble_eq_true rfl) rfl rfl rfl (m_finding (w := 0) (by decide) (by decide)) (fun r20 M20 z => ?_)
      obtain ⟨rfl, rfl⟩ := z
      show zV G (eX7_ahead (g_rmv 5)) (0, 0) 23 [(0, .ref 76), (1, .int x), (2, .int y)] [.int (fdg 0)] (mm (mTell I 0) J t) _
      exact zV_ireturn dX7_ahead_23 rfl rfl (PM.tell hM (by decide) (by unfold op_ahead; rw [if_pos h4, if_neg h14]) scM.rf)
