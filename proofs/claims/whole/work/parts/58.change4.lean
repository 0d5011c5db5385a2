/-! deals, partner: both classes -/
set_option maxRecDepth 100000 in
theorem p_deals {G : mG} {I : Nat → Nat → Int32} {J : Nat → Nat → Int64} {t : Nat} {B : Nat} {S : aS} (hC : InvC I S) (hw : wfS B S) (hB : B + 84 < 1000000) {x y : Int32} : zC G yX6_deals (eX6_deals (g_rmv 5)) [.ref 0, .int x, .int y] (mm I J t) (fun r M => PC I (op_deals S x y) r M) := by
  refine zC_of (by decide +kernel) rfl (by decide) (Nat.le_of_ble_eq_true rfl) ?_
  have n10 := hw.1.1
  show zV G (eX6_deals (g_rmv 5)) (0, 0) 0 [(0, .ref 0), (1, .int x), (2, .int y)] [] (mm I J t) _
  refine zV_iload_n dX6_deals_0 rfl 1 rfl rfl ?_
  refine zV_iload_n dX6_deals_1 rfl 2 rfl rfl ?_
  refine zV_callS (E' := eX6_areTwoPurses (g_rmv 2)) (av := [.int x, .int y]) (st := []) dX6_deals_2 rfl (k_RX6_142 _) rfl ⟨by decide, by decide⟩ ⟨by decide, by decide⟩ (Or.inl rfl) rfl (Nat.le_of_ble_eq_true rfl) (c_two (x := x) (y := y)) (fun r2 M2 z => ?_)
  obtain ⟨rfl, rfl⟩ := z
  show zV G (eX6_deals (g_rmv 5)) (0, 0) 5 [(0, .ref 0), (1, .int x), (2, .int y)] [.int (b2 (twoP x y))] (mm I J t) _
  refine zB_if_ne (tgt := 15) dX6_deals_5 rfl rfl  (fun h5 => ?_) (fun h5 => ?_)
  · obtain ⟨p, q, hp, hq, hpq, rfl, rfl⟩ := z_two h5
    refine zV_aload_n dX6_deals_15 rfl 0 rfl rfl ?_
    refine zV_getr (q' := 14) 1 dX6_deals_16 rfl fl_RX6_16 rfl (by decide) rfl rfl ?_
    refine zV_aload_n dX6_deals_19 rfl 0 rfl rfl ?_
    refine zV_getr (q' := 1) 0 dX6_deals_20 rfl fl_RX6_12 rfl (by decide) rfl rfl ?_
    refine zV_callV (E' := eX1_become (g_rmv 1)) (av := [.ref 1]) (st := []) (b := 14) dX6_deals_23 rfl (k_RX6_191 _) rfl ⟨by decide, by decide⟩ ⟨by decide, by decide⟩ (Or.inl rfl) rfl (Nat.le_of_ble_eq_true rfl) (sh_land (Or.inr (Or.inl rfl))) rfl rfl (c_landBecome (Or.inl rfl) (Or.inr (Or.inl rfl)) (by decide) hC.1 hw.1) (fun r23 M23 z => ?_)
    obtain ⟨I23, rfl, rfl, hA23, hF23⟩ := z
    show zV G (eX6_deals (g_rmv 5)) (0, 0) 26 [(0, .ref 0), (1, .int (nI p)), (2, .int (nI q))] [] (mm I23 J t) _
    refine zV_iconst (v := (nI 0)) dX6_deals_26 rfl rfl ?_
    refine zV_istore_n (lv' := [(0, .ref 0), (1, .int (nI p)), (2, .int (nI q)), (3, .int (nI 0))]) dX6_deals_27 rfl rfl (by decide) rfl ?_
    refine z_for (fun c => ∀ (I1 : Nat → Nat → Int32) (τ : aL), (dl p q S.1 c = some τ ∧ absL I1 14 τ ∧ wfL (B + 4 * c) τ ∧ (∀ i, ¬ scr i → I1 i = I i) ∧ ∀ i, i < c → (dl p q S.1 (i + 1)).isNone = false) → zV G (eX6_deals (g_rmv 5)) (0, 0) 28 [(0, .ref 0), (1, .int (nI p)), (2, .int (nI q)), (3, .int (nI c))] [] (mm I1 J t) _) 20 ?_ ?_ 0 (Nat.zero_le _) I23 S.1 ⟨rfl, hA23, hw.1, fun i hi => hF23 i (by unfold scr at hi; omega), fun i h => absurd h (Nat.not_lt_zero _)⟩
    · intro I1 τ h1
      refine zV_iload_n dX6_deals_28 rfl 3 rfl rfl ?_
      refine zV_bipush (v := (nI 20)) dX6_deals_29 rfl rfl ?_
      refine zN_icmp_ge (tgt := 79) dX6_deals_31 rfl rfl (by omega) (by omega) (fun _ => ?_) (fun z => absurd z (by omega))
      refine zV_iload_n dX6_deals_79 rfl 3 rfl rfl ?_
      exact zV_ireturn dX6_deals_80 rfl rfl (PC.same hC hw (by unfold op_deals; rw [if_pos h5, tn_nI (show p < 2 ^ 31 by omega), tn_nI (show q < 2 ^ 31 by omega), dln_end h1.2.2.2.2]) (fun i hi => h1.2.2.2.1 i hi))
    · intro c hc ih
      intro I1 τ h1
      refine zV_iload_n dX6_deals_28 rfl 3 rfl rfl ?_
      refine zV_bipush (v := (nI 20)) dX6_deals_29 rfl rfl ?_
      refine zN_icmp_ge (tgt := 79) dX6_deals_31 rfl rfl (by omega) (by omega) (fun z => absurd z (by omega)) (fun _ => ?_)
      cases eo : ld_chg τ p q with
      | none =>
        skip
        refine zV_aload_n dX6_deals_34 rfl 0 rfl rfl ?_
        refine zV_getr (q' := 61) 9 dX6_deals_35 rfl fl_RX6_57 rfl (by decide) rfl rfl ?_
        refine zV_aload_n dX6_deals_38 rfl 0 rfl rfl ?_
        refine zV_getr (q' := 14) 1 dX6_deals_39 rfl fl_RX6_16 rfl (by decide) rfl rfl ?_
        refine zV_iload_n dX6_deals_42 rfl 1 rfl rfl ?_
        refine zV_iload_n dX6_deals_43 rfl 2 rfl rfl ?_
        refine zV_callV (E' := eX5_findChange (g_rmv 4)) (av := [.ref 14, .int (nI p), .int (nI q)]) (st := []) (b := 61) dX6_deals_44 rfl (k_RX6_195 _) rfl ⟨by decide, by decide⟩ ⟨by decide, by decide⟩ (Or.inl rfl) rfl (Nat.le_of_ble_eq_true rfl) rfl rfl rfl (c_findChange (p := p) (q := q) (Or.inr (Or.inl rfl)) h1.2.1 h1.2.2.1 hp hq hpq) (fun r44 M44 z => ?_)
        obtain ⟨I44, rfl, rfl, hF44, hB44⟩ := z
        rw [eo] at hB44 ⊢
        show zV G (eX6_deals (g_rmv 5)) (0, 0) 47 [(0, .ref 0), (1, .int (nI p)), (2, .int (nI q)), (3, .int (nI c))] [.int (nI 0)] (mm I44 J t) _
        refine zN_if_eq (tgt := 79) dX6_deals_47 rfl rfl (by decide) (fun _ => ?_) (fun z => absurd z (by decide))
        refine zV_iload_n dX6_deals_79 rfl 3 rfl rfl ?_
        exact zV_ireturn dX6_deals_80 rfl rfl (PC.same hC hw (by unfold op_deals; rw [if_pos h5, tn_nI (show p < 2 ^ 31 by omega), tn_nI (show q < 2 ^ 31 by omega), dln_at hc h1.2.2.2.2 (dl_none h1.1 eo)]) (fun i hi => by rw [hF44 i (by unfold scr at hi; omega)]; exact h1.2.2.2.1 i hi))
      | some bb =>
        have g1 := gv_lt h1.2.2.1.1 p bb
        have g2 := gv_lt h1.2.2.1.1 q bb
        have gn1 := gnN_le h1.2.2.1 p q bb
        have gp := chg_pos eo
        refine zV_aload_n dX6_deals_34 rfl 0 rfl rfl ?_
        refine zV_getr (q' := 61) 9 dX6_deals_35 rfl fl_RX6_57 rfl (by decide) rfl rfl ?_
        refine zV_aload_n dX6_deals_38 rfl 0 rfl rfl ?_
        refine zV_getr (q' := 14) 1 dX6_deals_39 rfl fl_RX6_16 rfl (by decide) rfl rfl ?_
        refine zV_iload_n dX6_deals_42 rfl 1 rfl rfl ?_
        refine zV_iload_n dX6_deals_43 rfl 2 rfl rfl ?_
        refine zV_callV (E' := eX5_findChange (g_rmv 4)) (av := [.ref 14, .int (nI p), .int (nI q)]) (st := []) (b := 61) dX6_deals_44 rfl (k_RX6_195 _) rfl ⟨by decide, by decide⟩ ⟨by decide, by decide⟩ (Or.inl rfl) rfl (Nat.le_of_ble_eq_true rfl) rfl rfl rfl (c_findChange (p := p) (q := q) (Or.inr (Or.inl rfl)) h1.2.1 h1.2.2.1 hp hq hpq) (fun r44 M44 z => ?_)
        obtain ⟨I44, rfl, rfl, hF44, hB44⟩ := z
        rw [eo] at hB44 ⊢
        show zV G (eX6_deals (g_rmv 5)) (0, 0) 47 [(0, .ref 0), (1, .int (nI p)), (2, .int (nI q)), (3, .int (nI c))] [.int (nI 1)] (mm I44 J t) _
        refine zN_if_eq (tgt := 79) dX6_deals_47 rfl rfl (by decide) (fun z => absurd z (by decide)) (fun _ => ?_)
        refine zV_aload_n dX6_deals_50 rfl 0 rfl rfl ?_
        refine zV_getr (q' := 14) 1 dX6_deals_51 rfl fl_RX6_16 rfl (by decide) rfl rfl ?_
        refine zV_aload_n dX6_deals_54 rfl 0 rfl rfl ?_
        refine zV_getr (q' := 61) 9 dX6_deals_55 rfl fl_RX6_57 rfl (by decide) rfl rfl ?_
        refine zV_getI (x := (nI (gv τ p bb))) 6 dX6_deals_58 rfl fl_RX6_174 rfl (by decide) rfl ((hB44 bb rfl).1) ?_
        refine zV_iload_n dX6_deals_61 rfl 2 rfl rfl ?_
        refine zV_aload_n dX6_deals_62 rfl 0 rfl rfl ?_
        refine zV_getr (q' := 61) 9 dX6_deals_63 rfl fl_RX6_57 rfl (by decide) rfl rfl ?_
        refine zV_getI (x := (nI (gv τ q bb))) 7 dX6_deals_66 rfl fl_RX6_177 rfl (by decide) rfl ((hB44 bb rfl).2.1) ?_
        refine zV_iload_n dX6_deals_69 rfl 1 rfl rfl ?_
        refine zV_callV (E' := eX1_exchange (g_rmv 4)) (av := [.int (nI (gv τ p bb)), .int (nI q), .int (nI (gv τ q bb)), .int (nI p)]) (st := []) (b := 14) dX6_deals_70 rfl (k_RX6_180 _) rfl ⟨by decide, by decide⟩ ⟨by decide, by decide⟩ (Or.inl rfl) rfl (Nat.le_of_ble_eq_true rfl) (sh_land (Or.inr (Or.inl rfl))) rfl rfl (c_exchange (g := gv τ p bb) (to := q) (k := gv τ q bb) (fr := p) (Or.inr (Or.inl rfl)) (h1.2.1.mv h1.2.2.1.1 (fun i a c => hF44 i (by omega))) h1.2.2.1 (by omega) hq (by omega) hp (by omega)) (fun r70 M70 z => ?_)
        obtain ⟨I70, rfl, rfl, hA70, hF70⟩ := z
        show zV G (eX6_deals (g_rmv 5)) (0, 0) 73 [(0, .ref 0), (1, .int (nI p)), (2, .int (nI q)), (3, .int (nI c))] [] (mm I70 J t) _
        refine zV_iinc (y := (nI (c + 1))) (lv' := [(0, .ref 0), (1, .int (nI p)), (2, .int (nI q)), (3, .int (nI (c + 1)))]) dX6_deals_73 rfl 3 rfl (nI_1 _) (by decide) rfl ?_
        refine zV_goto (tgt := 28) dX6_deals_76 rfl ?_
        exact ih I70 (ld_swap τ p q bb) ⟨dl_some h1.1 eo, hA70, wf_swap (B := B + 4 * c) h1.2.2.1 hp hq (by omega), fun i hi => by rw [hF70 i (by unfold scr at hi; omega), hF44 i (by unfold scr at hi; omega)]; exact h1.2.2.2.1 i hi, fun i hi => by
            by_cases e : i = c
            · rw [e, dl_some h1.1 eo]; rfl
            · exact h1.2.2.2.2 i (by omega)⟩
  · refine zV_aload_n dX6_deals_8 rfl 0 rfl rfl ?_
    refine zV_ldc (v := (-1000001)) dX6_deals_9 rfl tw264 ?_
    refine zV_callV (E' := eX6_tell (g_rmv 1)) (av := [.int (-1000001)]) (st := []) (b := 0) dX6_deals_11 rfl (k_RX6_70 _) rfl ⟨by decide, by decide⟩ ⟨by decide, by decide⟩ (Or.inl rfl) rfl (Nat.le_of_ble_eq_true rfl) rfl rfl rfl (c_tell (w := 0) (by decide) (by decide)) (fun r11 M11 z => ?_)
    obtain ⟨rfl, rfl⟩ := z
    show zV G (eX6_deals (g_rmv 5)) (0, 0) 14 [(0, .ref 0), (1, .int x), (2, .int y)] [.int (fdg 0)] (mm (up2 I 67 0 (I 67 0 + nI 1)) J t) _
    exact zV_ireturn dX6_deals_14 rfl rfl (PC.tell hC hw (by unfold op_deals; rw [if_neg h5]) (fun _ _ => rfl))

set_option maxRecDepth 100000 in
theorem q_deals {G : mG} {I : Nat → Nat → Int32} {J : Nat → Nat → Int64} {t : Nat} {B : Nat} {S : aS} (hM : InvM I S) (hw : wfS B S) (hB : B + 84 < 1000000) {x y : Int32} : zC G yX7_deals (eX7_deals (g_rmv 7)) [.ref 76, .int x, .int y] (mm I J t) (fun r M => PM I (op_deals S x y) r M) := by
  refine zC_of (by decide +kernel) rfl (by decide) (Nat.le_of_ble_eq_true rfl) ?_
  have n10 := hw.1.1
  show zV G (eX7_deals (g_rmv 7)) (0, 0) 0 [(0, .ref 76), (1, .int x), (2, .int y)] [] (mm I J t) _
  refine zV_iload_n dX7_deals_0 rfl 1 rfl rfl ?_
  refine zV_iload_n dX7_deals_1 rfl 2 rfl rfl ?_
  refine zV_callS (E' := eX7_areTwo (g_rmv 2)) (av := [.int x, .int y]) (st := []) dX7_deals_2 rfl (k_RX7_159 _) rfl ⟨by decide, by decide⟩ ⟨by decide, by decide⟩ (Or.inl rfl) rfl (Nat.le_of_ble_eq_true rfl) (m_two (x := x) (y := y)) (fun r2 M2 z => ?_)
  obtain ⟨rfl, rfl⟩ := z
  show zV G (eX7_deals (g_rmv 7)) (0, 0) 5 [(0, .ref 76), (1, .int x), (2, .int y)] [.int (b2 (twoP x y))] (mm I J t) _
  refine zB_if_ne (tgt := 15) dX7_deals_5 rfl rfl  (fun h5 => ?_) (fun h5 => ?_)
  · obtain ⟨p, q, hp, hq, hpq, rfl, rfl⟩ := z_two h5
    refine zV_aload_n dX7_deals_15 rfl 0 rfl rfl ?_
    refine zV_getr (q' := 77) 0 dX7_deals_16 rfl fl_RX7_9 rfl (by decide) rfl rfl ?_
    refine zV_aload_n dX7_deals_19 rfl 0 rfl rfl ?_
    refine zV_getr (q' := 79) 2 dX7_deals_20 rfl fl_RX7_16 rfl (by decide) rfl rfl ?_
    refine zV_callS (E' := eX7_copyRow (g_rmv 0)) (av := [.ref 77, .ref 79]) (st := []) dX7_deals_23 rfl (k_RX7_68 _) rfl ⟨by decide, by decide⟩ ⟨by decide, by decide⟩ (Or.inl rfl) rfl (Nat.le_of_ble_eq_true rfl) (m_copyRow rfl rfl (by decide)) (fun r23 M23 z => ?_)
    obtain ⟨I23, rfl, rfl, hX23, hF23⟩ := z
    show zV G (eX7_deals (g_rmv 7)) (0, 0) 26 [(0, .ref 76), (1, .int (nI p)), (2, .int (nI q))] [] (mm I23 J t) _
    refine zV_iconst (v := (nI 0)) dX7_deals_26 rfl rfl ?_
    refine zV_istore_n (lv' := [(0, .ref 76), (1, .int (nI p)), (2, .int (nI q)), (3, .int (nI 0))]) dX7_deals_27 rfl rfl (by decide) rfl ?_
    refine z_for (fun c => ∀ (I1 : Nat → Nat → Int32) (τ : aL), (dl p q S.1 c = some τ ∧ absR I1 77 τ ∧ wfL (B + 4 * c) τ ∧ fr4 I23 I1 ∧ ∀ i, i < c → (dl p q S.1 (i + 1)).isNone = false) → zV G (eX7_deals (g_rmv 7)) (0, 0) 28 [(0, .ref 76), (1, .int (nI p)), (2, .int (nI q)), (3, .int (nI c))] [] (mm I1 J t) _) 20 ?_ ?_ 0 (Nat.zero_le _) I23 S.1 ⟨rfl, hM.1.mv (hF23 77 (by decide)), hw.1, fr4.rf, fun i h => absurd h (Nat.not_lt_zero _)⟩
    · intro I1 τ h1
      refine zV_iload_n dX7_deals_28 rfl 3 rfl rfl ?_
      refine zV_bipush (v := (nI 20)) dX7_deals_29 rfl rfl ?_
      refine zN_icmp_ge (tgt := 55) dX7_deals_31 rfl rfl (by omega) (by omega) (fun _ => ?_) (fun z => absurd z (by omega))
      refine zV_aload_n dX7_deals_55 rfl 0 rfl rfl ?_
      refine zV_iload_n dX7_deals_56 rfl 3 rfl rfl ?_
      refine zV_callV (E' := eX7_putBack (g_rmv 1)) (av := [.int (nI 20)]) (st := []) (b := 76) dX7_deals_57 rfl (k_RX7_211 _) rfl ⟨by decide, by decide⟩ ⟨by decide, by decide⟩ (Or.inl rfl) rfl (Nat.le_of_ble_eq_true rfl) rfl rfl rfl (m_putBack (x := (nI 20))) (fun r57 M57 z => ?_)
      obtain ⟨I57, rfl, rfl, hX57, hF57⟩ := z
      show zV G (eX7_deals (g_rmv 7)) (0, 0) 60 [(0, .ref 76), (1, .int (nI p)), (2, .int (nI q)), (3, .int (nI 20))] [.int (nI 20)] (mm I57 J t) _
      exact zV_ireturn dX7_deals_60 rfl rfl (PM.back2 hM hw (by unfold op_deals; rw [if_pos h5, tn_nI (show p < 2 ^ 31 by omega), tn_nI (show q < 2 ^ 31 by omega), dln_end h1.2.2.2.2]) (fun j hj => by rw [hX57 j hj, h1.2.2.2.1.1 79 (by decide) (by decide), hX23 j hj]) (fun i a b _ d => by rw [hF57 i a, h1.2.2.2.1.1 i a d, hF23 i b]) (by rw [hF57 76 (by decide), h1.2.2.2.1.2 3 (by decide) (by decide) (by decide), hF23 76 (by decide)]) (by rw [hF57 76 (by decide), h1.2.2.2.1.2 10 (by decide) (by decide) (by decide), hF23 76 (by decide)]))
    · intro c hc ih
      intro I1 τ h1
      refine zV_iload_n dX7_deals_28 rfl 3 rfl rfl ?_
      refine zV_bipush (v := (nI 20)) dX7_deals_29 rfl rfl ?_
      refine zN_icmp_ge (tgt := 55) dX7_deals_31 rfl rfl (by omega) (by omega) (fun z => absurd z (by omega)) (fun _ => ?_)
      cases eo : ld_chg τ p q with
      | none =>
        skip
        refine zV_aload_n dX7_deals_34 rfl 0 rfl rfl ?_
        refine zV_iload_n dX7_deals_35 rfl 1 rfl rfl ?_
        refine zV_iload_n dX7_deals_36 rfl 2 rfl rfl ?_
        refine zV_callV (E' := eX7_findChange (g_rmv 5)) (av := [.int (nI p), .int (nI q)]) (st := []) (b := 76) dX7_deals_37 rfl (k_RX7_208 _) rfl ⟨by decide, by decide⟩ ⟨by decide, by decide⟩ (Or.inl rfl) rfl (Nat.le_of_ble_eq_true rfl) rfl rfl rfl (m_findChange (p := p) (q := q) h1.2.1 h1.2.2.1 hp hq hpq) (fun r37 M37 z => ?_)
        obtain ⟨I37, rfl, rfl, hG37, hB37⟩ := z
        rw [eo] at hB37 ⊢
        show zV G (eX7_deals (g_rmv 7)) (0, 0) 40 [(0, .ref 76), (1, .int (nI p)), (2, .int (nI q)), (3, .int (nI c))] [.int (nI 0)] (mm I37 J t) _
        refine zN_if_le (tgt := 55) dX7_deals_40 rfl rfl (by omega) (fun _ => ?_) (fun z => absurd z (by omega))
        refine zV_aload_n dX7_deals_55 rfl 0 rfl rfl ?_
        refine zV_iload_n dX7_deals_56 rfl 3 rfl rfl ?_
        refine zV_callV (E' := eX7_putBack (g_rmv 1)) (av := [.int (nI c)]) (st := []) (b := 76) dX7_deals_57 rfl (k_RX7_211 _) rfl ⟨by decide, by decide⟩ ⟨by decide, by decide⟩ (Or.inl rfl) rfl (Nat.le_of_ble_eq_true rfl) rfl rfl rfl (m_putBack (x := (nI c))) (fun r57 M57 z => ?_)
        obtain ⟨I57, rfl, rfl, hX57, hF57⟩ := z
        show zV G (eX7_deals (g_rmv 7)) (0, 0) 60 [(0, .ref 76), (1, .int (nI p)), (2, .int (nI q)), (3, .int (nI c))] [.int (nI c)] (mm I57 J t) _
        exact zV_ireturn dX7_deals_60 rfl rfl (PM.back2 hM hw (by unfold op_deals; rw [if_pos h5, tn_nI (show p < 2 ^ 31 by omega), tn_nI (show q < 2 ^ 31 by omega), dln_at hc h1.2.2.2.2 (dl_none h1.1 eo)]) (fun j hj => by rw [hX57 j hj, (h1.2.2.2.1.tr3 hG37).1 79 (by decide) (by decide), hX23 j hj]) (fun i a b _ d => by rw [hF57 i a, (h1.2.2.2.1.tr3 hG37).1 i a d, hF23 i b]) (by rw [hF57 76 (by decide), (h1.2.2.2.1.tr3 hG37).2 3 (by decide) (by decide) (by decide), hF23 76 (by decide)]) (by rw [hF57 76 (by decide), (h1.2.2.2.1.tr3 hG37).2 10 (by decide) (by decide) (by decide), hF23 76 (by decide)]))
      | some bb =>
        have g1 := gv_lt h1.2.2.1.1 p bb
        have g2 := gv_lt h1.2.2.1.1 q bb
        have gn1 := gnN_le h1.2.2.1 p q bb
        have gp := chg_pos eo
        refine zV_aload_n dX7_deals_34 rfl 0 rfl rfl ?_
        refine zV_iload_n dX7_deals_35 rfl 1 rfl rfl ?_
        refine zV_iload_n dX7_deals_36 rfl 2 rfl rfl ?_
        refine zV_callV (E' := eX7_findChange (g_rmv 5)) (av := [.int (nI p), .int (nI q)]) (st := []) (b := 76) dX7_deals_37 rfl (k_RX7_208 _) rfl ⟨by decide, by decide⟩ ⟨by decide, by decide⟩ (Or.inl rfl) rfl (Nat.le_of_ble_eq_true rfl) rfl rfl rfl (m_findChange (p := p) (q := q) h1.2.1 h1.2.2.1 hp hq hpq) (fun r37 M37 z => ?_)
        obtain ⟨I37, rfl, rfl, hG37, hB37⟩ := z
        rw [eo] at hB37 ⊢
        show zV G (eX7_deals (g_rmv 7)) (0, 0) 40 [(0, .ref 76), (1, .int (nI p)), (2, .int (nI q)), (3, .int (nI c))] [.int (nI (gnN τ p q bb))] (mm I37 J t) _
        refine zN_if_le (tgt := 55) dX7_deals_40 rfl rfl (by omega) (fun z => absurd z (by omega)) (fun _ => ?_)
        refine zV_aload_n dX7_deals_43 rfl 0 rfl rfl ?_
        refine zV_iload_n dX7_deals_44 rfl 1 rfl rfl ?_
        refine zV_iload_n dX7_deals_45 rfl 2 rfl rfl ?_
        refine zV_callV (E' := eX7_bothPaid (g_rmv 6)) (av := [.int (nI p), .int (nI q)]) (st := []) (b := 76) dX7_deals_46 rfl (k_RX7_202 _) rfl ⟨by decide, by decide⟩ ⟨by decide, by decide⟩ (Or.inl rfl) rfl (Nat.le_of_ble_eq_true rfl) rfl rfl rfl (m_bothPaid (p := p) (q := q) (bb := bb) (h1.2.1.mv (hG37.1 77 (by decide))) h1.2.2.1 hp hq (by omega) hB37.1 hB37.2 rfl) (fun r46 M46 z => ?_)
        obtain ⟨I46, rfl, rfl, hR46, hF46⟩ := z
        show zV G (eX7_deals (g_rmv 7)) (0, 0) 49 [(0, .ref 76), (1, .int (nI p)), (2, .int (nI q)), (3, .int (nI c))] [] (mm I46 J t) _
        refine zV_iinc (y := (nI (c + 1))) (lv' := [(0, .ref 76), (1, .int (nI p)), (2, .int (nI q)), (3, .int (nI (c + 1)))]) dX7_deals_49 rfl 3 rfl (nI_1 _) (by decide) rfl ?_
        refine zV_goto (tgt := 28) dX7_deals_52 rfl ?_
        exact ih I46 (ld_swap τ p q bb) ⟨dl_some h1.1 eo, hR46, wf_swap (B := B + 4 * c) h1.2.2.1 hp hq (by omega), (h1.2.2.2.1.tr3 hG37).trM hF46, fun i hi => by
            by_cases e : i = c
            · rw [e, dl_some h1.1 eo]; rfl
            · exact h1.2.2.2.2 i (by omega)⟩
  · refine zV_aload_n dX7_deals_8 rfl 0 rfl rfl ?_
    refine zV_ldc (v := (-1000001)) dX7_deals_9 rfl tw970 ?_
    refine zV_callV (E' := eX7_finding (g_rmv 0)) (av := [.int (-1000001)]) (st := []) (b := 76) dX7_deals_11 rfl (k_RX7_87 _) rfl ⟨by decide, by decide⟩ ⟨by decide, by decide⟩ (Or.inl rfl) rfl (Nat.le_of_ble_eq_true rfl) rfl rfl rfl (m_finding (w := 0) (by decide) (by decide)) (fun r11 M11 z => ?_)
    obtain ⟨rfl, rfl⟩ := z
    show zV G (eX7_deals (g_rmv 7)) (0, 0) 14 [(0, .ref 76), (1, .int x), (2, .int y)] [.int (fdg 0)] (mm (mTell I 0) J t) _
    exact zV_ireturn dX7_deals_14 rfl rfl (PM.tell hM (by decide) (by unfold op_deals; rw [if_neg h5]) scM.rf)

set_option maxRecDepth 100000 in
theorem p_partner {G : mG} {I : Nat → Nat → Int32} {J : Nat → Nat → Int64} {t : Nat} {B : Nat} {S : aS} (hC : InvC I S) (hw : wfS B S) {x : Int32} : zC G yX6_partner (eX6_partner (g_rmv 5)) [.ref 0, .int x] (mm I J t) (fun r M => PC I (op_partner S x) r M) := by
  refine zC_of (by decide +kernel) rfl (by decide) (Nat.le_of_ble_eq_true rfl) ?_
  have n10 := hw.1.1
  show zV G (eX6_partner (g_rmv 5)) (0, 0) 0 [(0, .ref 0), (1, .int x)] [] (mm I J t) _
  refine zV_iload_n dX6_partner_0 rfl 1 rfl rfl ?_
  refine zV_callS (E' := eX6_isPurse (g_rmv 1)) (av := [.int x]) (st := []) dX6_partner_1 rfl (k_RX6_124 _) rfl ⟨by decide, by decide⟩ ⟨by decide, by decide⟩ (Or.inl rfl) rfl (Nat.le_of_ble_eq_true rfl) (c_isPurse (x := x)) (fun r1 M1 z => ?_)
  obtain ⟨rfl, rfl⟩ := z
  show zV G (eX6_partner (g_rmv 5)) (0, 0) 4 [(0, .ref 0), (1, .int x)] [.int (b2 (inR x 3))] (mm I J t) _
  refine zB_if_ne (tgt := 14) dX6_partner_4 rfl rfl  (fun h4 => ?_) (fun h4 => ?_)
  · obtain ⟨p, hp3, rfl⟩ := (inR_iff (by decide)).mp h4
    have hp : p < 4 := by omega
    refine zV_iconst (v := (-1)) dX6_partner_14 rfl rfl ?_
    refine zV_istore_n (lv' := [(0, .ref 0), (1, .int (nI p)), (2, .int (-1))]) dX6_partner_15 rfl rfl (by decide) rfl ?_
    refine zV_iconst (v := (nI 0)) dX6_partner_16 rfl rfl ?_
    refine zV_istore_n (lv' := [(0, .ref 0), (1, .int (nI p)), (2, .int (-1)), (3, .int (nI 0))]) dX6_partner_17 rfl rfl (by decide) rfl ?_
    refine zV_iconst (v := (nI 0)) dX6_partner_18 rfl rfl ?_
    refine zV_istore (lv' := [(0, .ref 0), (1, .int (nI p)), (2, .int (-1)), (3, .int (nI 0)), (4, .int (nI 0))]) dX6_partner_19 rfl (by decide) rfl ?_
    refine z_for (fun c => ∀ (I1 : Nat → Nat → Int32), (∀ i, (i < 61 ∨ 66 < i) → I1 i = I i) → zV G (eX6_partner (g_rmv 5)) (0, 0) 21 [(0, .ref 0), (1, .int (nI p)), (2, .int (ans (pt S.1 p c).1)), (3, .int (nI ((pt S.1 p c).2))), (4, .int (nI c))] [] (mm I1 J t) _) 4 ?_ ?_ 0 (Nat.zero_le _) I (fun _ _ => rfl)
    · intro I1 h1
      refine zV_iload dX6_partner_21 rfl 4 rfl ?_
      refine zV_iconst (v := (nI 4)) dX6_partner_23 rfl rfl ?_
      refine zN_icmp_ge (tgt := 78) dX6_partner_24 rfl rfl (by omega) (by omega) (fun _ => ?_) (fun z => absurd z (by omega))
      cases eo : (pt S.1 p 4).1 with
      | none =>
        show zV G (eX6_partner (g_rmv 5)) (0, 0) 78 [(0, .ref 0), (1, .int (nI p)), (2, .int (-1)), (3, .int (nI ((pt S.1 p 4).2))), (4, .int (nI 4))] [] (mm I1 J t) _
        refine zV_iload_n dX6_partner_78 rfl 2 rfl rfl ?_
        refine zV_if_lt (tgt := 86) dX6_partner_79 rfl rfl  (fun _ => ?_) (fun z => absurd z (by decide))
        refine zV_aload_n dX6_partner_86 rfl 0 rfl rfl ?_
        refine zV_ldc (v := (-1000004)) dX6_partner_87 rfl tw424 ?_
        refine zV_callV (E' := eX6_tell (g_rmv 1)) (av := [.int (-1000004)]) (st := []) (b := 0) dX6_partner_89 rfl (k_RX6_70 _) rfl ⟨by decide, by decide⟩ ⟨by decide, by decide⟩ (Or.inl rfl) rfl (Nat.le_of_ble_eq_true rfl) rfl rfl rfl (c_tell (w := 3) (by decide) (by decide)) (fun r89 M89 z => ?_)
        obtain ⟨rfl, rfl⟩ := z
        show zV G (eX6_partner (g_rmv 5)) (0, 0) 92 [(0, .ref 0), (1, .int (nI p)), (2, .int (-1)), (3, .int (nI ((pt S.1 p 4).2))), (4, .int (nI 4))] [.int (fdg 3)] (mm (up2 I1 67 3 (I1 67 3 + nI 1)) J t) _
        exact zV_ireturn dX6_partner_92 rfl rfl (PC.tell (hC.mv hw (fun i a _ => h1 i (by unfold scr at a; omega))) hw (by unfold op_partner; rw [if_pos h4, tn_nI (show p < 2 ^ 31 by omega), eo]) (fun i hi => h1 i (by omega)))
      | some bb =>
        have b4 := pt_lt 4 eo
        show zV G (eX6_partner (g_rmv 5)) (0, 0) 78 [(0, .ref 0), (1, .int (nI p)), (2, .int (nI bb)), (3, .int (nI ((pt S.1 p 4).2))), (4, .int (nI 4))] [] (mm I1 J t) _
        refine zV_iload_n dX6_partner_78 rfl 2 rfl rfl ?_
        refine zN_if_lt (tgt := 86) dX6_partner_79 rfl (by omega) rfl ?_
        refine zV_iload_n dX6_partner_82 rfl 2 rfl rfl ?_
        refine zV_goto (tgt := 92) dX6_partner_83 rfl ?_
        exact zV_ireturn dX6_partner_92 rfl rfl (PC.same hC hw (by unfold op_partner; rw [if_pos h4, tn_nI (show p < 2 ^ 31 by omega), eo]) (fun i hi => h1 i (by unfold scr at hi; omega)))
    · intro c hc ih I1 h1
      have pl := pt_le hw.1 p c
      have pg := pgn_le hw.1 p c
      refine zV_iload dX6_partner_21 rfl 4 rfl ?_
      refine zV_iconst (v := (nI 4)) dX6_partner_23 rfl rfl ?_
      refine zN_icmp_ge (tgt := 78) dX6_partner_24 rfl rfl (by omega) (by omega) (fun z => absurd z (by omega)) (fun _ => ?_)
      refine zV_iload dX6_partner_27 rfl 4 rfl ?_
      refine zV_iload_n dX6_partner_29 rfl 1 rfl rfl ?_
      refine zN_icmp_eq (tgt := 72) dX6_partner_30 rfl rfl (by omega) (by omega) (fun h30 => ?_) (fun h30 => ?_)
      · skip
        refine zV_iinc (y := (nI (c + 1))) (lv' := [(0, .ref 0), (1, .int (nI p)), (2, .int (ans (pt S.1 p c).1)), (3, .int (nI ((pt S.1 p c).2))), (4, .int (nI (c + 1)))]) dX6_partner_72 rfl 4 rfl (nI_1 _) (by decide) rfl ?_
        refine zV_goto (tgt := 21) dX6_partner_75 rfl ?_
        have ih2 := ih I1 h1
        have pe := pgn_self (σ := S.1) h30
        rw [pt_f (by omega)] at ih2
        exact ih2
      · skip
        cases eo : ld_chg S.1 p c with
        | none =>
          have pe := pgn_no h30 eo
          refine zV_aload_n dX6_partner_33 rfl 0 rfl rfl ?_
          refine zV_getr (q' := 61) 9 dX6_partner_34 rfl fl_RX6_57 rfl (by decide) rfl rfl ?_
          refine zV_aload_n dX6_partner_37 rfl 0 rfl rfl ?_
          refine zV_getr (q' := 1) 0 dX6_partner_38 rfl fl_RX6_12 rfl (by decide) rfl rfl ?_
          refine zV_iload_n dX6_partner_41 rfl 1 rfl rfl ?_
          refine zV_iload dX6_partner_42 rfl 4 rfl ?_
          refine zV_callV (E' := eX5_findChange (g_rmv 4)) (av := [.ref 1, .int (nI p), .int (nI c)]) (st := []) (b := 61) dX6_partner_44 rfl (k_RX6_195 _) rfl ⟨by decide, by decide⟩ ⟨by decide, by decide⟩ (Or.inl rfl) rfl (Nat.le_of_ble_eq_true rfl) rfl rfl rfl (c_findChange (p := p) (q := c) (Or.inl rfl) (hC.1.mv n10 (fun i a b => h1 i (by omega))) hw.1 hp hc (fun e => h30 e.symm)) (fun r44 M44 z => ?_)
          obtain ⟨I44, rfl, rfl, hF44, hB44⟩ := z
          rw [eo] at hB44 ⊢
          show zV G (eX6_partner (g_rmv 5)) (0, 0) 47 [(0, .ref 0), (1, .int (nI p)), (2, .int (ans (pt S.1 p c).1)), (3, .int (nI ((pt S.1 p c).2))), (4, .int (nI c))] [.int (nI 0)] (mm I44 J t) _
          refine zN_if_eq (tgt := 72) dX6_partner_47 rfl rfl (by decide) (fun _ => ?_) (fun z => absurd z (by decide))
          refine zV_iinc (y := (nI (c + 1))) (lv' := [(0, .ref 0), (1, .int (nI p)), (2, .int (ans (pt S.1 p c).1)), (3, .int (nI ((pt S.1 p c).2))), (4, .int (nI (c + 1)))]) dX6_partner_72 rfl 4 rfl (nI_1 _) (by decide) rfl ?_
          refine zV_goto (tgt := 21) dX6_partner_75 rfl ?_
          have ih2 := ih I44 (fun i hi => (hF44 i hi).trans (h1 i hi))
          rw [pt_f (by omega)] at ih2
          exact ih2
        | some bb =>
          have gn1 := gnN_le hw.1 p c bb
          have pe := pgn_yes h30 eo
          refine zV_aload_n dX6_partner_33 rfl 0 rfl rfl ?_
          refine zV_getr (q' := 61) 9 dX6_partner_34 rfl fl_RX6_57 rfl (by decide) rfl rfl ?_
          refine zV_aload_n dX6_partner_37 rfl 0 rfl rfl ?_
          refine zV_getr (q' := 1) 0 dX6_partner_38 rfl fl_RX6_12 rfl (by decide) rfl rfl ?_
          refine zV_iload_n dX6_partner_41 rfl 1 rfl rfl ?_
          refine zV_iload dX6_partner_42 rfl 4 rfl ?_
          refine zV_callV (E' := eX5_findChange (g_rmv 4)) (av := [.ref 1, .int (nI p), .int (nI c)]) (st := []) (b := 61) dX6_partner_44 rfl (k_RX6_195 _) rfl ⟨by decide, by decide⟩ ⟨by decide, by decide⟩ (Or.inl rfl) rfl (Nat.le_of_ble_eq_true rfl) rfl rfl rfl (c_findChange (p := p) (q := c) (Or.inl rfl) (hC.1.mv n10 (fun i a b => h1 i (by omega))) hw.1 hp hc (fun e => h30 e.symm)) (fun r44 M44 z => ?_)
          obtain ⟨I44, rfl, rfl, hF44, hB44⟩ := z
          rw [eo] at hB44 ⊢
          show zV G (eX6_partner (g_rmv 5)) (0, 0) 47 [(0, .ref 0), (1, .int (nI p)), (2, .int (ans (pt S.1 p c).1)), (3, .int (nI ((pt S.1 p c).2))), (4, .int (nI c))] [.int (nI 1)] (mm I44 J t) _
          refine zN_if_eq (tgt := 72) dX6_partner_47 rfl rfl (by decide) (fun z => absurd z (by decide)) (fun _ => ?_)
          refine zV_aload_n dX6_partner_50 rfl 0 rfl rfl ?_
          refine zV_getr (q' := 61) 9 dX6_partner_51 rfl fl_RX6_57 rfl (by decide) rfl rfl ?_
          refine zV_getI (x := (nI (gnN S.1 p c bb))) 8 dX6_partner_54 rfl fl_RX6_171 rfl (by decide) rfl ((hB44 bb rfl).2.2) ?_
          refine zV_iload_n dX6_partner_57 rfl 3 rfl rfl ?_
          refine zN_icmp_le (tgt := 72) dX6_partner_58 rfl rfl (by omega) (by omega) (fun h58 => ?_) (fun h58 => ?_)
          · skip
            refine zV_iinc (y := (nI (c + 1))) (lv' := [(0, .ref 0), (1, .int (nI p)), (2, .int (ans (pt S.1 p c).1)), (3, .int (nI ((pt S.1 p c).2))), (4, .int (nI (c + 1)))]) dX6_partner_72 rfl 4 rfl (nI_1 _) (by decide) rfl ?_
            refine zV_goto (tgt := 21) dX6_partner_75 rfl ?_
            have ih2 := ih I44 (fun i hi => (hF44 i hi).trans (h1 i hi))
            rw [pt_f (by omega)] at ih2
            exact ih2
          · skip
            refine zV_iload dX6_partner_61 rfl 4 rfl ?_
            refine zV_istore_n (lv' := [(0, .ref 0), (1, .int (nI p)), (2, .int (nI c)), (3, .int (nI ((pt S.1 p c).2))), (4, .int (nI c))]) dX6_partner_63 rfl rfl (by decide) rfl ?_
            refine zV_aload_n dX6_partner_64 rfl 0 rfl rfl ?_
            refine zV_getr (q' := 61) 9 dX6_partner_65 rfl fl_RX6_57 rfl (by decide) rfl rfl ?_
            refine zV_getI (x := (nI (gnN S.1 p c bb))) 8 dX6_partner_68 rfl fl_RX6_171 rfl (by decide) rfl ((hB44 bb rfl).2.2) ?_
            refine zV_istore_n (lv' := [(0, .ref 0), (1, .int (nI p)), (2, .int (nI c)), (3, .int (nI (gnN S.1 p c bb))), (4, .int (nI c))]) dX6_partner_71 rfl rfl (by decide) rfl ?_
            refine zV_iinc (y := (nI (c + 1))) (lv' := [(0, .ref 0), (1, .int (nI p)), (2, .int (nI c)), (3, .int (nI (gnN S.1 p c bb))), (4, .int (nI (c + 1)))]) dX6_partner_72 rfl 4 rfl (nI_1 _) (by decide) rfl ?_
            refine zV_goto (tgt := 21) dX6_partner_75 rfl ?_
            have ih2 := ih I44 (fun i hi => (hF44 i hi).trans (h1 i hi))
            rw [pt_t (by omega)] at ih2
            rw [pe] at ih2
            exact ih2
  · refine zV_aload_n dX6_partner_7 rfl 0 rfl rfl ?_
    refine zV_ldc (v := (-1000001)) dX6_partner_8 rfl tw264 ?_
    refine zV_callV (E' := eX6_tell (g_rmv 1)) (av := [.int (-1000001)]) (st := []) (b := 0) dX6_partner_10 rfl (k_RX6_70 _) rfl ⟨by decide, by decide⟩ ⟨by decide, by decide⟩ (Or.inl rfl) rfl (Nat.le_of_ble_eq_true rfl) rfl rfl rfl (c_tell (w := 0) (by decide) (by decide)) (fun r10 M10 z => ?_)
    obtain ⟨rfl, rfl⟩ := z
    show zV G (eX6_partner (g_rmv 5)) (0, 0) 13 [(0, .ref 0), (1, .int x)] [.int (fdg 0)] (mm (up2 I 67 0 (I 67 0 + nI 1)) J t) _
    exact zV_ireturn dX6_partner_13 rfl rfl (PC.tell hC hw (by unfold op_partner; rw [if_neg h4]) (fun _ _ => rfl))

set_option maxRecDepth 100000 in
theorem q_partner {G : mG} {I : Nat → Nat → Int32} {J : Nat → Nat → Int64} {t : Nat} {B : Nat} {S : aS} (hM : InvM I S) (hw : wfS B S) {x : Int32} : zC G yX7_partner (eX7_partner (g_rmv 6)) [.ref 76, .int x] (mm I J t) (fun r M => PM I (op_partner S x) r M) := by
  refine zC_of (by decide +kernel) rfl (by decide) (Nat.le_of_ble_eq_true rfl) ?_
  have n10 := hw.1.1
  show zV G (eX7_partner (g_rmv 6)) (0, 0) 0 [(0, .ref 76), (1, .int x)] [] (mm I J t) _
  refine zV_iload_n dX7_partner_0 rfl 1 rfl rfl ?_
  refine zV_callS (E' := eX7_isPurse (g_rmv 1)) (av := [.int x]) (st := []) dX7_partner_1 rfl (k_RX7_76 _) rfl ⟨by decide, by decide⟩ ⟨by decide, by decide⟩ (Or.inl rfl) rfl (Nat.le_of_ble_eq_true rfl) (m_isPurse (x := x)) (fun r1 M1 z => ?_)
  obtain ⟨rfl, rfl⟩ := z
  show zV G (eX7_partner (g_rmv 6)) (0, 0) 4 [(0, .ref 76), (1, .int x)] [.int (b2 (inR x 3))] (mm I J t) _
  refine zB_if_ne (tgt := 14) dX7_partner_4 rfl rfl  (fun h4 => ?_) (fun h4 => ?_)
  · obtain ⟨p, hp3, rfl⟩ := (inR_iff (by decide)).mp h4
    have hp : p < 4 := by omega
    refine zV_iconst (v := (-1)) dX7_partner_14 rfl rfl ?_
    refine zV_istore_n (lv' := [(0, .ref 76), (1, .int (nI p)), (2, .int (-1))]) dX7_partner_15 rfl rfl (by decide) rfl ?_
    refine zV_iconst (v := (nI 0)) dX7_partner_16 rfl rfl ?_
    refine zV_istore_n (lv' := [(0, .ref 76), (1, .int (nI p)), (2, .int (-1)), (3, .int (nI 0))]) dX7_partner_17 rfl rfl (by decide) rfl ?_
    refine zV_iconst (v := (nI 0)) dX7_partner_18 rfl rfl ?_
    refine zV_istore (lv' := [(0, .ref 76), (1, .int (nI p)), (2, .int (-1)), (3, .int (nI 0)), (4, .int (nI 0))]) dX7_partner_19 rfl (by decide) rfl ?_
    refine z_for (fun c => ∀ (I1 : Nat → Nat → Int32), fr3 I I1 → zV G (eX7_partner (g_rmv 6)) (0, 0) 21 [(0, .ref 76), (1, .int (nI p)), (2, .int (ans (pt S.1 p c).1)), (3, .int (nI ((pt S.1 p c).2))), (4, .int (nI c))] [] (mm I1 J t) _) 4 ?_ ?_ 0 (Nat.zero_le _) I fr3.rf
    · intro I1 h1
      refine zV_iload dX7_partner_21 rfl 4 rfl ?_
      refine zV_iconst (v := (nI 4)) dX7_partner_23 rfl rfl ?_
      refine zN_icmp_ge (tgt := 72) dX7_partner_24 rfl rfl (by omega) (by omega) (fun _ => ?_) (fun z => absurd z (by omega))
      cases eo : (pt S.1 p 4).1 with
      | none =>
        show zV G (eX7_partner (g_rmv 6)) (0, 0) 72 [(0, .ref 76), (1, .int (nI p)), (2, .int (-1)), (3, .int (nI ((pt S.1 p 4).2))), (4, .int (nI 4))] [] (mm I1 J t) _
        refine zV_iload_n dX7_partner_72 rfl 2 rfl rfl ?_
        refine zV_if_ge (tgt := 85) dX7_partner_73 rfl rfl  (fun z => absurd z (by decide)) (fun _ => ?_)
        refine zV_aload_n dX7_partner_76 rfl 0 rfl rfl ?_
        refine zV_ldc (v := (-1000004)) dX7_partner_77 rfl tw1107 ?_
        refine zV_callV (E' := eX7_finding (g_rmv 0)) (av := [.int (-1000004)]) (st := []) (b := 76) dX7_partner_79 rfl (k_RX7_87 _) rfl ⟨by decide, by decide⟩ ⟨by decide, by decide⟩ (Or.inl rfl) rfl (Nat.le_of_ble_eq_true rfl) rfl rfl rfl (m_finding (w := 3) (by decide) (by decide)) (fun r79 M79 z => ?_)
        obtain ⟨rfl, rfl⟩ := z
        show zV G (eX7_partner (g_rmv 6)) (0, 0) 82 [(0, .ref 76), (1, .int (nI p)), (2, .int (-1)), (3, .int (nI ((pt S.1 p 4).2))), (4, .int (nI 4))] [.int (fdg 3)] (mm (mTell I1 3) J t) _
        refine zV_goto (tgt := 86) dX7_partner_82 rfl ?_
        exact zV_ireturn dX7_partner_86 rfl rfl (PM.tell hM (by decide) (by unfold op_partner; rw [if_pos h4, tn_nI (show p < 2 ^ 31 by omega), eo]) h1.sc)
      | some bb =>
        have b4 := pt_lt 4 eo
        show zV G (eX7_partner (g_rmv 6)) (0, 0) 72 [(0, .ref 76), (1, .int (nI p)), (2, .int (nI bb)), (3, .int (nI ((pt S.1 p 4).2))), (4, .int (nI 4))] [] (mm I1 J t) _
        refine zV_iload_n dX7_partner_72 rfl 2 rfl rfl ?_
        refine zN_if_ge (tgt := 85) dX7_partner_73 rfl (by omega) rfl ?_
        refine zV_iload_n dX7_partner_85 rfl 2 rfl rfl ?_
        exact zV_ireturn dX7_partner_86 rfl rfl (PM.same hM (by unfold op_partner; rw [if_pos h4, tn_nI (show p < 2 ^ 31 by omega), eo]) h1.sc)
    · intro c hc ih I1 h1
      have pl := pt_le hw.1 p c
      have pg := pgn_le hw.1 p c
      refine zV_iload dX7_partner_21 rfl 4 rfl ?_
      refine zV_iconst (v := (nI 4)) dX7_partner_23 rfl rfl ?_
      refine zN_icmp_ge (tgt := 72) dX7_partner_24 rfl rfl (by omega) (by omega) (fun z => absurd z (by omega)) (fun _ => ?_)
      refine zV_iload dX7_partner_27 rfl 4 rfl ?_
      refine zV_iload_n dX7_partner_29 rfl 1 rfl rfl ?_
      refine zN_icmp_ne (tgt := 37) dX7_partner_30 rfl rfl (by omega) (by omega) (fun h30 => ?_) (fun h30 => ?_)
      · skip
        cases eo : ld_chg S.1 p c with
        | none =>
          have pe := pgn_no h30 eo
          refine zV_aload_n dX7_partner_37 rfl 0 rfl rfl ?_
          refine zV_iload_n dX7_partner_38 rfl 1 rfl rfl ?_
          refine zV_iload dX7_partner_39 rfl 4 rfl ?_
          refine zV_callV (E' := eX7_findChange (g_rmv 5)) (av := [.int (nI p), .int (nI c)]) (st := []) (b := 76) dX7_partner_41 rfl (k_RX7_208 _) rfl ⟨by decide, by decide⟩ ⟨by decide, by decide⟩ (Or.inl rfl) rfl (Nat.le_of_ble_eq_true rfl) rfl rfl rfl (m_findChange (p := p) (q := c) (hM.1.mv (h1.1 77 (by decide))) hw.1 hp hc (fun e => h30 e.symm)) (fun r41 M41 z => ?_)
          obtain ⟨I41, rfl, rfl, hG41, hB41⟩ := z
          rw [eo] at hB41 ⊢
          show zV G (eX7_partner (g_rmv 6)) (0, 0) 44 [(0, .ref 76), (1, .int (nI p)), (2, .int (ans (pt S.1 p c).1)), (3, .int (nI ((pt S.1 p c).2))), (4, .int (nI c))] [.int (nI 0)] (mm I41 J t) _
          refine zV_istore (lv' := [(0, .ref 76), (1, .int (nI p)), (2, .int (ans (pt S.1 p c).1)), (3, .int (nI ((pt S.1 p c).2))), (4, .int (nI c)), (5, .int (nI 0))]) dX7_partner_44 rfl (by decide) rfl ?_
          refine zV_iload dX7_partner_46 rfl 5 rfl ?_
          refine zV_iload_n dX7_partner_48 rfl 3 rfl rfl ?_
          refine zN_icmp_le (tgt := 57) dX7_partner_49 rfl rfl (by omega) (by omega) (fun h49 => ?_) (fun h49 => ?_)
          · skip
            refine zV_iload_n dX7_partner_57 rfl 2 rfl rfl ?_
            refine zV_istore_n (lv' := [(0, .ref 76), (1, .int (nI p)), (2, .int (ans (pt S.1 p c).1)), (3, .int (nI ((pt S.1 p c).2))), (4, .int (nI c)), (5, .int (nI 0))]) dX7_partner_58 rfl rfl (by decide) rfl ?_
            refine zV_iload_n dX7_partner_59 rfl 3 rfl rfl ?_
            refine zV_iload dX7_partner_60 rfl 5 rfl ?_
            refine zV_callS (E' := eJ9_max_7cf53 (g_rmv 0)) (av := [.int (nI ((pt S.1 p c).2)), .int (nI 0)]) (st := []) dX7_partner_62 rfl (k_RX7_102 _) rfl ⟨by decide, by decide⟩ ⟨by decide, by decide⟩ (Or.inl rfl) rfl (Nat.le_of_ble_eq_true rfl) (c_maxn (a := (pt S.1 p c).2) (b := 0) (by omega) (by omega)) (fun r62 M62 z => ?_)
            obtain ⟨rfl, rfl⟩ := z
            rw [show max (pt S.1 p c).2 0 = (pt S.1 p c).2 from by omega]
            show zV G (eX7_partner (g_rmv 6)) (0, 0) 65 [(0, .ref 76), (1, .int (nI p)), (2, .int (ans (pt S.1 p c).1)), (3, .int (nI ((pt S.1 p c).2))), (4, .int (nI c)), (5, .int (nI 0))] [.int (nI ((pt S.1 p c).2))] (mm I41 J t) _
            refine zV_istore_n (lv' := [(0, .ref 76), (1, .int (nI p)), (2, .int (ans (pt S.1 p c).1)), (3, .int (nI ((pt S.1 p c).2))), (4, .int (nI c)), (5, .int (nI 0))]) dX7_partner_65 rfl rfl (by decide) rfl ?_
            refine zV_iinc (y := (nI (c + 1))) (lv' := [(0, .ref 76), (1, .int (nI p)), (2, .int (ans (pt S.1 p c).1)), (3, .int (nI ((pt S.1 p c).2))), (4, .int (nI (c + 1))), (5, .int (nI 0))]) dX7_partner_66 rfl 4 rfl (nI_1 _) (by decide) rfl ?_
            refine zV_goto (tgt := 21) dX7_partner_69 rfl ?_
            refine zV_keep (lv' := [(0, .ref 76), (1, .int (nI p)), (2, .int (ans (pt S.1 p c).1)), (3, .int (nI ((pt S.1 p c).2))), (4, .int (nI (c + 1)))]) [0, 1, 2, 3, 4] rfl ?_
            have ih2 := ih I41 (h1.tr hG41)
            rw [pt_f (by omega)] at ih2
            exact ih2
          · skip
            refine zV_iload dX7_partner_52 rfl 4 rfl ?_
            refine zV_goto (tgt := 58) dX7_partner_54 rfl ?_
            refine zV_istore_n (lv' := [(0, .ref 76), (1, .int (nI p)), (2, .int (nI c)), (3, .int (nI ((pt S.1 p c).2))), (4, .int (nI c)), (5, .int (nI 0))]) dX7_partner_58 rfl rfl (by decide) rfl ?_
            refine zV_iload_n dX7_partner_59 rfl 3 rfl rfl ?_
            refine zV_iload dX7_partner_60 rfl 5 rfl ?_
            refine zV_callS (E' := eJ9_max_7cf53 (g_rmv 0)) (av := [.int (nI ((pt S.1 p c).2)), .int (nI 0)]) (st := []) dX7_partner_62 rfl (k_RX7_102 _) rfl ⟨by decide, by decide⟩ ⟨by decide, by decide⟩ (Or.inl rfl) rfl (Nat.le_of_ble_eq_true rfl) (c_maxn (a := (pt S.1 p c).2) (b := 0) (by omega) (by omega)) (fun r62 M62 z => ?_)
            obtain ⟨rfl, rfl⟩ := z
            rw [show max (pt S.1 p c).2 0 = 0 from by omega]
            show zV G (eX7_partner (g_rmv 6)) (0, 0) 65 [(0, .ref 76), (1, .int (nI p)), (2, .int (nI c)), (3, .int (nI ((pt S.1 p c).2))), (4, .int (nI c)), (5, .int (nI 0))] [.int (nI 0)] (mm I41 J t) _
            refine zV_istore_n (lv' := [(0, .ref 76), (1, .int (nI p)), (2, .int (nI c)), (3, .int (nI 0)), (4, .int (nI c)), (5, .int (nI 0))]) dX7_partner_65 rfl rfl (by decide) rfl ?_
            refine zV_iinc (y := (nI (c + 1))) (lv' := [(0, .ref 76), (1, .int (nI p)), (2, .int (nI c)), (3, .int (nI 0)), (4, .int (nI (c + 1))), (5, .int (nI 0))]) dX7_partner_66 rfl 4 rfl (nI_1 _) (by decide) rfl ?_
            refine zV_goto (tgt := 21) dX7_partner_69 rfl ?_
            refine zV_keep (lv' := [(0, .ref 76), (1, .int (nI p)), (2, .int (nI c)), (3, .int (nI 0)), (4, .int (nI (c + 1)))]) [0, 1, 2, 3, 4] rfl ?_
            have ih2 := ih I41 (h1.tr hG41)
            rw [pt_t (by omega)] at ih2
            rw [pe] at ih2
            exact ih2
        | some bb =>
          have gn1 := gnN_le hw.1 p c bb
          have pe := pgn_yes h30 eo
          refine zV_aload_n dX7_partner_37 rfl 0 rfl rfl ?_
          refine zV_iload_n dX7_partner_38 rfl 1 rfl rfl ?_
          refine zV_iload dX7_partner_39 rfl 4 rfl ?_
          refine zV_callV (E' := eX7_findChange (g_rmv 5)) (av := [.int (nI p), .int (nI c)]) (st := []) (b := 76) dX7_partner_41 rfl (k_RX7_208 _) rfl ⟨by decide, by decide⟩ ⟨by decide, by decide⟩ (Or.inl rfl) rfl (Nat.le_of_ble_eq_true rfl) rfl rfl rfl (m_findChange (p := p) (q := c) (hM.1.mv (h1.1 77 (by decide))) hw.1 hp hc (fun e => h30 e.symm)) (fun r41 M41 z => ?_)
          obtain ⟨I41, rfl, rfl, hG41, hB41⟩ := z
          rw [eo] at hB41 ⊢
          show zV G (eX7_partner (g_rmv 6)) (0, 0) 44 [(0, .ref 76), (1, .int (nI p)), (2, .int (ans (pt S.1 p c).1)), (3, .int (nI ((pt S.1 p c).2))), (4, .int (nI c))] [.int (nI (gnN S.1 p c bb))] (mm I41 J t) _
          refine zV_istore (lv' := [(0, .ref 76), (1, .int (nI p)), (2, .int (ans (pt S.1 p c).1)), (3, .int (nI ((pt S.1 p c).2))), (4, .int (nI c)), (5, .int (nI (gnN S.1 p c bb)))]) dX7_partner_44 rfl (by decide) rfl ?_
          refine zV_iload dX7_partner_46 rfl 5 rfl ?_
          refine zV_iload_n dX7_partner_48 rfl 3 rfl rfl ?_
          refine zN_icmp_le (tgt := 57) dX7_partner_49 rfl rfl (by omega) (by omega) (fun h49 => ?_) (fun h49 => ?_)
          · skip
            refine zV_iload_n dX7_partner_57 rfl 2 rfl rfl ?_
            refine zV_istore_n (lv' := [(0, .ref 76), (1, .int (nI p)), (2, .int (ans (pt S.1 p c).1)), (3, .int (nI ((pt S.1 p c).2))), (4, .int (nI c)), (5, .int (nI (gnN S.1 p c bb)))]) dX7_partner_58 rfl rfl (by decide) rfl ?_
            refine zV_iload_n dX7_partner_59 rfl 3 rfl rfl ?_
            refine zV_iload dX7_partner_60 rfl 5 rfl ?_
            refine zV_callS (E' := eJ9_max_7cf53 (g_rmv 0)) (av := [.int (nI ((pt S.1 p c).2)), .int (nI (gnN S.1 p c bb))]) (st := []) dX7_partner_62 rfl (k_RX7_102 _) rfl ⟨by decide, by decide⟩ ⟨by decide, by decide⟩ (Or.inl rfl) rfl (Nat.le_of_ble_eq_true rfl) (c_maxn (a := (pt S.1 p c).2) (b := (gnN S.1 p c bb)) (by omega) (by omega)) (fun r62 M62 z => ?_)
            obtain ⟨rfl, rfl⟩ := z
            rw [show max (pt S.1 p c).2 (gnN S.1 p c bb) = (pt S.1 p c).2 from by omega]
            show zV G (eX7_partner (g_rmv 6)) (0, 0) 65 [(0, .ref 76), (1, .int (nI p)), (2, .int (ans (pt S.1 p c).1)), (3, .int (nI ((pt S.1 p c).2))), (4, .int (nI c)), (5, .int (nI (gnN S.1 p c bb)))] [.int (nI ((pt S.1 p c).2))] (mm I41 J t) _
            refine zV_istore_n (lv' := [(0, .ref 76), (1, .int (nI p)), (2, .int (ans (pt S.1 p c).1)), (3, .int (nI ((pt S.1 p c).2))), (4, .int (nI c)), (5, .int (nI (gnN S.1 p c bb)))]) dX7_partner_65 rfl rfl (by decide) rfl ?_
            refine zV_iinc (y := (nI (c + 1))) (lv' := [(0, .ref 76), (1, .int (nI p)), (2, .int (ans (pt S.1 p c).1)), (3, .int (nI ((pt S.1 p c).2))), (4, .int (nI (c + 1))), (5, .int (nI (gnN S.1 p c bb)))]) dX7_partner_66 rfl 4 rfl (nI_1 _) (by decide) rfl ?_
            refine zV_goto (tgt := 21) dX7_partner_69 rfl ?_
            refine zV_keep (lv' := [(0, .ref 76), (1, .int (nI p)), (2, .int (ans (pt S.1 p c).1)), (3, .int (nI ((pt S.1 p c).2))), (4, .int (nI (c + 1)))]) [0, 1, 2, 3, 4] rfl ?_
            have ih2 := ih I41 (h1.tr hG41)
            rw [pt_f (by omega)] at ih2
            exact ih2
          · skip
            refine zV_iload dX7_partner_52 rfl 4 rfl ?_
            refine zV_goto (tgt := 58) dX7_partner_54 rfl ?_
            refine zV_istore_n (lv' := [(0, .ref 76), (1, .int (nI p)), (2, .int (nI c)), (3, .int (nI ((pt S.1 p c).2))), (4, .int (nI c)), (5, .int (nI (gnN S.1 p c bb)))]) dX7_partner_58 rfl rfl (by decide) rfl ?_
            refine zV_iload_n dX7_partner_59 rfl 3 rfl rfl ?_
            refine zV_iload dX7_partner_60 rfl 5 rfl ?_
            refine zV_callS (E' := eJ9_max_7cf53 (g_rmv 0)) (av := [.int (nI ((pt S.1 p c).2)), .int (nI (gnN S.1 p c bb))]) (st := []) dX7_partner_62 rfl (k_RX7_102 _) rfl ⟨by decide, by decide⟩ ⟨by decide, by decide⟩ (Or.inl rfl) rfl (Nat.le_of_ble_eq_true rfl) (c_maxn (a := (pt S.1 p c).2) (b := (gnN S.1 p c bb)) (by omega) (by omega)) (fun r62 M62 z => ?_)
            obtain ⟨rfl, rfl⟩ := z
            rw [show max (pt S.1 p c).2 (gnN S.1 p c bb) = (gnN S.1 p c bb) from by omega]
            show zV G (eX7_partner (g_rmv 6)) (0, 0) 65 [(0, .ref 76), (1, .int (nI p)), (2, .int (nI c)), (3, .int (nI ((pt S.1 p c).2))), (4, .int (nI c)), (5, .int (nI (gnN S.1 p c bb)))] [.int (nI (gnN S.1 p c bb))] (mm I41 J t) _
            refine zV_istore_n (lv' := [(0, .ref 76), (1, .int (nI p)), (2, .int (nI c)), (3, .int (nI (gnN S.1 p c bb))), (4, .int (nI c)), (5, .int (nI (gnN S.1 p c bb)))]) dX7_partner_65 rfl rfl (by decide) rfl ?_
            refine zV_iinc (y := (nI (c + 1))) (lv' := [(0, .ref 76), (1, .int (nI p)), (2, .int (nI c)), (3, .int (nI (gnN S.1 p c bb))), (4, .int (nI (c + 1))), (5, .int (nI (gnN S.1 p c bb)))]) dX7_partner_66 rfl 4 rfl (nI_1 _) (by decide) rfl ?_
            refine zV_goto (tgt := 21) dX7_partner_69 rfl ?_
            refine zV_keep (lv' := [(0, .ref 76), (1, .int (nI p)), (2, .int (nI c)), (3, .int (nI (gnN S.1 p c bb))), (4, .int (nI (c + 1)))]) [0, 1, 2, 3, 4] rfl ?_
            have ih2 := ih I41 (h1.tr hG41)
            rw [pt_t (by omega)] at ih2
            rw [pe] at ih2
            exact ih2
      · skip
        refine zV_iconst (v := (nI 0)) dX7_partner_33 rfl rfl ?_
        refine zV_goto (tgt := 44) dX7_partner_34 rfl ?_
        refine zV_istore (lv' := [(0, .ref 76), (1, .int (nI p)), (2, .int (ans (pt S.1 p c).1)), (3, .int (nI ((pt S.1 p c).2))), (4, .int (nI c)), (5, .int (nI 0))]) dX7_partner_44 rfl (by decide) rfl ?_
        refine zV_iload dX7_partner_46 rfl 5 rfl ?_
        refine zV_iload_n dX7_partner_48 rfl 3 rfl rfl ?_
        refine zN_icmp_le (tgt := 57) dX7_partner_49 rfl rfl (by omega) (by omega) (fun h49 => ?_) (fun h49 => ?_)
        · skip
          refine zV_iload_n dX7_partner_57 rfl 2 rfl rfl ?_
          refine zV_istore_n (lv' := [(0, .ref 76), (1, .int (nI p)), (2, .int (ans (pt S.1 p c).1)), (3, .int (nI ((pt S.1 p c).2))), (4, .int (nI c)), (5, .int (nI 0))]) dX7_partner_58 rfl rfl (by decide) rfl ?_
          refine zV_iload_n dX7_partner_59 rfl 3 rfl rfl ?_
          refine zV_iload dX7_partner_60 rfl 5 rfl ?_
          refine zV_callS (E' := eJ9_max_7cf53 (g_rmv 0)) (av := [.int (nI ((pt S.1 p c).2)), .int (nI 0)]) (st := []) dX7_partner_62 rfl (k_RX7_102 _) rfl ⟨by decide, by decide⟩ ⟨by decide, by decide⟩ (Or.inl rfl) rfl (Nat.le_of_ble_eq_true rfl) (c_maxn (a := (pt S.1 p c).2) (b := 0) (by omega) (by omega)) (fun r62 M62 z => ?_)
          obtain ⟨rfl, rfl⟩ := z
          rw [show max (pt S.1 p c).2 0 = (pt S.1 p c).2 from by omega]
          show zV G (eX7_partner (g_rmv 6)) (0, 0) 65 [(0, .ref 76), (1, .int (nI p)), (2, .int (ans (pt S.1 p c).1)), (3, .int (nI ((pt S.1 p c).2))), (4, .int (nI c)), (5, .int (nI 0))] [.int (nI ((pt S.1 p c).2))] (mm I1 J t) _
          refine zV_istore_n (lv' := [(0, .ref 76), (1, .int (nI p)), (2, .int (ans (pt S.1 p c).1)), (3, .int (nI ((pt S.1 p c).2))), (4, .int (nI c)), (5, .int (nI 0))]) dX7_partner_65 rfl rfl (by decide) rfl ?_
          refine zV_iinc (y := (nI (c + 1))) (lv' := [(0, .ref 76), (1, .int (nI p)), (2, .int (ans (pt S.1 p c).1)), (3, .int (nI ((pt S.1 p c).2))), (4, .int (nI (c + 1))), (5, .int (nI 0))]) dX7_partner_66 rfl 4 rfl (nI_1 _) (by decide) rfl ?_
          refine zV_goto (tgt := 21) dX7_partner_69 rfl ?_
          refine zV_keep (lv' := [(0, .ref 76), (1, .int (nI p)), (2, .int (ans (pt S.1 p c).1)), (3, .int (nI ((pt S.1 p c).2))), (4, .int (nI (c + 1)))]) [0, 1, 2, 3, 4] rfl ?_
          have ih2 := ih I1 h1
          have pe := pgn_self (σ := S.1) h30
          rw [pt_f (by omega)] at ih2
          exact ih2
        · skip
          refine zV_iload dX7_partner_52 rfl 4 rfl ?_
          refine zV_goto (tgt := 58) dX7_partner_54 rfl ?_
          refine zV_istore_n (lv' := [(0, .ref 76), (1, .int (nI p)), (2, .int (nI c)), (3, .int (nI ((pt S.1 p c).2))), (4, .int (nI c)), (5, .int (nI 0))]) dX7_partner_58 rfl rfl (by decide) rfl ?_
          refine zV_iload_n dX7_partner_59 rfl 3 rfl rfl ?_
          refine zV_iload dX7_partner_60 rfl 5 rfl ?_
          refine zV_callS (E' := eJ9_max_7cf53 (g_rmv 0)) (av := [.int (nI ((pt S.1 p c).2)), .int (nI 0)]) (st := []) dX7_partner_62 rfl (k_RX7_102 _) rfl ⟨by decide, by decide⟩ ⟨by decide, by decide⟩ (Or.inl rfl) rfl (Nat.le_of_ble_eq_true rfl) (c_maxn (a := (pt S.1 p c).2) (b := 0) (by omega) (by omega)) (fun r62 M62 z => ?_)
          obtain ⟨rfl, rfl⟩ := z
          rw [show max (pt S.1 p c).2 0 = 0 from by omega]
          show zV G (eX7_partner (g_rmv 6)) (0, 0) 65 [(0, .ref 76), (1, .int (nI p)), (2, .int (nI c)), (3, .int (nI ((pt S.1 p c).2))), (4, .int (nI c)), (5, .int (nI 0))] [.int (nI 0)] (mm I1 J t) _
          refine zV_istore_n (lv' := [(0, .ref 76), (1, .int (nI p)), (2, .int (nI c)), (3, .int (nI 0)), (4, .int (nI c)), (5, .int (nI 0))]) dX7_partner_65 rfl rfl (by decide) rfl ?_
          refine zV_iinc (y := (nI (c + 1))) (lv' := [(0, .ref 76), (1, .int (nI p)), (2, .int (nI c)), (3, .int (nI 0)), (4, .int (nI (c + 1))), (5, .int (nI 0))]) dX7_partner_66 rfl 4 rfl (nI_1 _) (by decide) rfl ?_
          refine zV_goto (tgt := 21) dX7_partner_69 rfl ?_
          refine zV_keep (lv' := [(0, .ref 76), (1, .int (nI p)), (2, .int (nI c)), (3, .int (nI 0)), (4, .int (nI (c + 1)))]) [0, 1, 2, 3, 4] rfl ?_
          have ih2 := ih I1 h1
          have pe := pgn_self (σ := S.1) h30
          rw [pt_t (by omega)] at ih2
          rw [pe] at ih2
          exact ih2
  · refine zV_aload_n dX7_partner_7 rfl 0 rfl rfl ?_
    refine zV_ldc (v := (-1000001)) dX7_partner_8 rfl tw970 ?_
    refine zV_callV (E' := eX7_finding (g_rmv 0)) (av := [.int (-1000001)]) (st := []) (b := 76) dX7_partner_10 rfl (k_RX7_87 _) rfl ⟨by decide, by decide⟩ ⟨by decide, by decide⟩ (Or.inl rfl) rfl (Nat.le_of_ble_eq_true rfl) rfl rfl rfl (m_finding (w := 0) (by decide) (by decide)) (fun r10 M10 z => ?_)
    obtain ⟨rfl, rfl⟩ := z
    show zV G (eX7_partner (g_rmv 6)) (0, 0) 13 [(0, .ref 76), (1, .int x)] [.int (fdg 0)] (mm (mTell I 0) J t) _
    exact zV_ireturn dX7_partner_13 rfl rfl (PM.tell hM (by decide) (by unfold op_partner; rw [if_neg h4]) scM.rf)
