/-! judge of the class -/
set_option maxRecDepth 100000 in
theorem p_judge {G : mG} {I : Nat → Nat → Int32} {J : Nat → Nat → Int64} {t : Nat} {B : Nat} {S : aS} (hC : InvC I S) (hw : wfS B S) (hB : B + 164 < 1000000) {x y z : Int32} : zC G yX6_judge (eX6_judge (g_rmv 5)) [.ref 0, .int x, .int y, .int z] (mm I J t) (fun r M => PC I (op_judge S x y z) r M) := by
  refine zC_of (by decide +kernel) rfl (by decide) (Nat.le_of_ble_eq_true rfl) ?_
  have n10 := hw.1.1
  show zV G (eX6_judge (g_rmv 5)) (0, 0) 0 [(0, .ref 0), (1, .int x), (2, .int y), (3, .int z)] [] (mm I J t) _
  by_cases h0 : inR x 3
  · obtain ⟨s, hs3, rfl⟩ := (inR_iff (by decide)).mp h0
    have hs : s < 4 := by omega
    have bs := (hw.2.2.2.2.2.1 s hs).1
    have zs40 := (hw.2.2.2.2.2.1 s hs).2
    by_cases h5 : S.2.2.2.2.2.1 s = 0
    · show zV G (eX6_judge (g_rmv 5)) (0, 0) 0 [(0, .ref 0), (1, .int (nI s)), (2, .int y), (3, .int z)] [] (mm I J t) _
      refine zV_aload_n dX6_judge_0 rfl 0 rfl rfl ?_
      refine zV_iload_n dX6_judge_1 rfl 1 rfl rfl ?_
      refine zV_callV (E' := eX6_seekSheet (g_rmv 2)) (av := [.int (nI s)]) (st := []) (b := 0) dX6_judge_2 rfl (k_RX6_266 _) rfl ⟨by decide, by decide⟩ ⟨by decide, by decide⟩ (Or.inl rfl) rfl (Nat.le_of_ble_eq_true rfl) rfl rfl rfl (c_seek5 hC hw hs h5) (fun r2 M2 z => ?_)
      obtain ⟨rfl, rfl⟩ := z
      show zV G (eX6_judge (g_rmv 5)) (0, 0) 5 [(0, .ref 0), (1, .int (nI s)), (2, .int y), (3, .int z)] [.int (-1000006)] (mm I J t) _
      refine zV_istore (lv' := [(0, .ref 0), (1, .int (nI s)), (2, .int y), (3, .int z), (4, .int (-1000006))]) dX6_judge_5 rfl (by decide) rfl ?_
      refine zV_iload dX6_judge_7 rfl 4 rfl ?_
      refine zV_if_eq (tgt := 19) dX6_judge_9 rfl rfl  (fun z => absurd z (by decide)) (fun _ => ?_)
      refine zV_aload_n dX6_judge_12 rfl 0 rfl rfl ?_
      refine zV_iload dX6_judge_13 rfl 4 rfl ?_
      refine zV_callV (E' := eX6_tell (g_rmv 1)) (av := [.int (-1000006)]) (st := []) (b := 0) dX6_judge_15 rfl (k_RX6_70 _) rfl ⟨by decide, by decide⟩ ⟨by decide, by decide⟩ (Or.inl rfl) rfl (Nat.le_of_ble_eq_true rfl) rfl rfl rfl (c_tell (w := 5) (by decide) (by decide)) (fun r15 M15 z => ?_)
      obtain ⟨rfl, rfl⟩ := z
      show zV G (eX6_judge (g_rmv 5)) (0, 0) 18 [(0, .ref 0), (1, .int (nI s)), (2, .int y), (3, .int z), (4, .int (-1000006))] [.int (fdg 5)] (mm (up2 I 67 5 (I 67 5 + nI 1)) J t) _
      exact zV_ireturn dX6_judge_18 rfl rfl (PC.tell hC hw (by unfold op_judge; rw [if_pos h0, tn_nI (show s < 2 ^ 31 by omega), if_pos h5]) (fun _ _ => rfl))
    · show zV G (eX6_judge (g_rmv 5)) (0, 0) 0 [(0, .ref 0), (1, .int (nI s)), (2, .int y), (3, .int z)] [] (mm I J t) _
      refine zV_aload_n dX6_judge_0 rfl 0 rfl rfl ?_
      refine zV_iload_n dX6_judge_1 rfl 1 rfl rfl ?_
      refine zV_callV (E' := eX6_seekSheet (g_rmv 2)) (av := [.int (nI s)]) (st := []) (b := 0) dX6_judge_2 rfl (k_RX6_266 _) rfl ⟨by decide, by decide⟩ ⟨by decide, by decide⟩ (Or.inl rfl) rfl (Nat.le_of_ble_eq_true rfl) rfl rfl rfl (c_seekF hC hw hs h5) (fun r2 M2 z => ?_)
      obtain ⟨rfl, rfl⟩ := z
      show zV G (eX6_judge (g_rmv 5)) (0, 0) 5 [(0, .ref 0), (1, .int (nI s)), (2, .int y), (3, .int z)] [.int (nI 0)] (mm I J t) _
      refine zV_istore (lv' := [(0, .ref 0), (1, .int (nI s)), (2, .int y), (3, .int z), (4, .int (nI 0))]) dX6_judge_5 rfl (by decide) rfl ?_
      refine zV_iload dX6_judge_7 rfl 4 rfl ?_
      refine zN_if_eq (tgt := 19) dX6_judge_9 rfl rfl (by decide) (fun _ => ?_) (fun z => absurd z (by decide))
      refine zV_iload_n dX6_judge_19 rfl 2 rfl rfl ?_
      refine zV_iload_n dX6_judge_20 rfl 3 rfl rfl ?_
      refine zV_callS (E' := eX6_areTwoPurses (g_rmv 2)) (av := [.int y, .int z]) (st := []) dX6_judge_21 rfl (k_RX6_142 _) rfl ⟨by decide, by decide⟩ ⟨by decide, by decide⟩ (Or.inl rfl) rfl (Nat.le_of_ble_eq_true rfl) (c_two (x := y) (y := z)) (fun r21 M21 z => ?_)
      obtain ⟨rfl, rfl⟩ := z
      show zV G (eX6_judge (g_rmv 5)) (0, 0) 24 [(0, .ref 0), (1, .int (nI s)), (2, .int y), (3, .int z), (4, .int (nI 0))] [.int (b2 (twoP y z))] (mm I J t) _
      refine zB_if_ne (tgt := 34) dX6_judge_24 rfl rfl  (fun h24 => ?_) (fun h24 => ?_)
      · obtain ⟨p, q, hp, hq, hpq, rfl, rfl⟩ := z_two h24
        refine zV_aload_n dX6_judge_34 rfl 0 rfl rfl ?_
        refine zV_getr (q' := 14) 1 dX6_judge_35 rfl fl_RX6_16 rfl (by decide) rfl rfl ?_
        refine zV_aload_n dX6_judge_38 rfl 0 rfl rfl ?_
        refine zV_getr (q' := 1) 0 dX6_judge_39 rfl fl_RX6_12 rfl (by decide) rfl rfl ?_
        refine zV_callV (E' := eX1_become (g_rmv 1)) (av := [.ref 1]) (st := []) (b := 14) dX6_judge_42 rfl (k_RX6_191 _) rfl ⟨by decide, by decide⟩ ⟨by decide, by decide⟩ (Or.inl rfl) rfl (Nat.le_of_ble_eq_true rfl) (sh_land (Or.inr (Or.inl rfl))) rfl rfl (c_landBecome (Or.inl rfl) (Or.inr (Or.inl rfl)) (by decide) hC.1 hw.1) (fun r42 M42 z => ?_)
        obtain ⟨I42, rfl, rfl, hA42, hF42⟩ := z
        show zV G (eX6_judge (g_rmv 5)) (0, 0) 45 [(0, .ref 0), (1, .int (nI s)), (2, .int (nI p)), (3, .int (nI q)), (4, .int (nI 0))] [] (mm I42 J t) _
        refine zV_iconst (v := (nI 0)) dX6_judge_45 rfl rfl ?_
        refine zV_istore (lv' := [(0, .ref 0), (1, .int (nI s)), (2, .int (nI p)), (3, .int (nI q)), (4, .int (nI 0)), (5, .int (nI 0))]) dX6_judge_46 rfl (by decide) rfl ?_
        refine z_for (fun c => ∀ (I1 : Nat → Nat → Int32) (τ : aL), (jd p q (S.2.2.2.2.2.2.2 s) S.1 c = some τ ∧ absL I1 14 τ ∧ wfL (B + 4 * c) τ ∧ (∀ i, ¬ scr i → I1 i = I i) ∧ ∀ i, i < c → (jd p q (S.2.2.2.2.2.2.2 s) S.1 (i + 1)).isNone = false) → zV G (eX6_judge (g_rmv 5)) (0, 0) 48 [(0, .ref 0), (1, .int (nI s)), (2, .int (nI p)), (3, .int (nI q)), (4, .int (nI 0)), (5, .int (nI c))] [] (mm I1 J t) _) (S.2.2.2.2.2.2.1 s) ?_ ?_ 0 (Nat.zero_le _) I42 S.1 ⟨rfl, hA42, hw.1, fun i hi => hF42 i (by unfold scr at hi; omega), fun i h => absurd h (Nat.not_lt_zero _)⟩
        · intro I1 τ h1
          refine zV_iload dX6_judge_48 rfl 5 rfl ?_
          refine zV_aload_n dX6_judge_50 rfl 0 rfl rfl ?_
          refine zV_getr (q' := 43) 7 dX6_judge_51 rfl fl_RX6_43 rfl (by decide) rfl rfl ?_
          refine zV_iload_n dX6_judge_54 rfl 1 rfl rfl ?_
          refine zV_aaload (q' := (68 + 2 * s)) s dX6_judge_55 rfl rfl rfl (by decide) rfl (by omega) (by decide) (R_sheet (by omega)) ?_
          refine zV_getI (x := (nI (S.2.2.2.2.2.2.1 s))) 2 dX6_judge_56 rfl fl_RX6_263 (sh_sheet (by omega)) (by decide) rfl (by rw [h1.2.2.2.1 (68 + 2 * s) (by unfold scr; omega)]; exact (hC.2.2.2.2.2.2 s hs).2.1) ?_
          refine zN_icmp_ge (tgt := 139) dX6_judge_59 rfl rfl (by omega) (by omega) (fun _ => ?_) (fun z => absurd z (by omega))
          refine zV_iconst (v := (nI 0)) dX6_judge_139 rfl rfl ?_
          exact zV_ireturn dX6_judge_140 rfl rfl (PC.same hC hw (by unfold op_judge; rw [if_pos h0, tn_nI (show s < 2 ^ 31 by omega), if_neg h5, if_pos h24, tn_nI (show p < 2 ^ 31 by omega), tn_nI (show q < 2 ^ 31 by omega), jans_end h1.2.2.2.2]) (fun i hi => h1.2.2.2.1 i hi))
        · intro c hc ih
          intro I1 τ h1
          refine zV_iload dX6_judge_48 rfl 5 rfl ?_
          refine zV_aload_n dX6_judge_50 rfl 0 rfl rfl ?_
          refine zV_getr (q' := 43) 7 dX6_judge_51 rfl fl_RX6_43 rfl (by decide) rfl rfl ?_
          refine zV_iload_n dX6_judge_54 rfl 1 rfl rfl ?_
          refine zV_aaload (q' := (68 + 2 * s)) s dX6_judge_55 rfl rfl rfl (by decide) rfl (by omega) (by decide) (R_sheet (by omega)) ?_
          refine zV_getI (x := (nI (S.2.2.2.2.2.2.1 s))) 2 dX6_judge_56 rfl fl_RX6_263 (sh_sheet (by omega)) (by decide) rfl (by rw [h1.2.2.2.1 (68 + 2 * s) (by unfold scr; omega)]; exact (hC.2.2.2.2.2.2 s hs).2.1) ?_
          refine zN_icmp_ge (tgt := 139) dX6_judge_59 rfl rfl (by omega) (by omega) (fun z => absurd z (by omega)) (fun _ => ?_)
          refine zV_aload_n dX6_judge_62 rfl 0 rfl rfl ?_
          refine zV_getr (q' := 43) 7 dX6_judge_63 rfl fl_RX6_43 rfl (by decide) rfl rfl ?_
          refine zV_iload_n dX6_judge_66 rfl 1 rfl rfl ?_
          refine zV_aaload (q' := (68 + 2 * s)) s dX6_judge_67 rfl rfl rfl (by decide) rfl (by omega) (by decide) (R_sheet (by omega)) ?_
          refine zV_getrX (q' := (69 + 2 * s)) 0 dX6_judge_68 rfl fl_RX6_282 (sh_sheet (by omega)) (by decide) rfl (R_nums (by omega)) ?_
          refine zV_iload dX6_judge_71 rfl 5 rfl ?_
          refine zV_iald (x := (S.2.2.2.2.2.2.2 s c)) c dX6_judge_73 rfl (sh_nums (by omega)) rfl (by omega) (by decide) (by rw [h1.2.2.2.1 (69 + 2 * s) (by unfold scr; omega)]; exact (hC.2.2.2.2.2.2 s hs).2.2 c (by omega)) ?_
          refine zV_istore (lv' := [(0, .ref 0), (1, .int (nI s)), (2, .int (nI p)), (3, .int (nI q)), (4, .int (nI 0)), (5, .int (nI c)), (6, .int (S.2.2.2.2.2.2.2 s c))]) dX6_judge_74 rfl (by decide) rfl ?_
          refine zV_iload dX6_judge_76 rfl 6 rfl ?_
          refine zV_sipush (v := (nI 999)) dX6_judge_78 rfl rfl ?_
          refine zV_callS (E' := eX6_isWithin (g_rmv 0)) (av := [.int (S.2.2.2.2.2.2.2 s c), .int (nI 999)]) (st := []) dX6_judge_81 rfl (k_RX6_65 _) rfl ⟨by decide, by decide⟩ ⟨by decide, by decide⟩ (Or.inl rfl) rfl (Nat.le_of_ble_eq_true rfl) (c_isWithin (x := (S.2.2.2.2.2.2.2 s c)) (y := (nI 999))) (fun r81 M81 z => ?_)
          obtain ⟨rfl, rfl⟩ := z
          show zV G (eX6_judge (g_rmv 5)) (0, 0) 84 [(0, .ref 0), (1, .int (nI s)), (2, .int (nI p)), (3, .int (nI q)), (4, .int (nI 0)), (5, .int (nI c)), (6, .int (S.2.2.2.2.2.2.2 s c))] [.int (b2 (0 ≤ (S.2.2.2.2.2.2.2 s c) ∧ (S.2.2.2.2.2.2.2 s c) ≤ (nI 999)))] (mm I1 J t) _
          refine zB_if_eq (tgt := 105) dX6_judge_84 rfl rfl  (fun h84 => ?_) (fun h84 => ?_)
          · refine zV_iconst (v := (nI 1)) dX6_judge_105 rfl rfl ?_
            refine zV_iload dX6_judge_106 rfl 5 rfl ?_
            refine zA_iadd (z := (nI (1 + c))) dX6_judge_108 rfl  (nI_add _ _) ?_
            exact zV_ireturn dX6_judge_109 rfl rfl (PC.same hC hw (by unfold op_judge; rw [if_pos h0, tn_nI (show s < 2 ^ 31 by omega), if_neg h5, if_pos h24, tn_nI (show p < 2 ^ 31 by omega), tn_nI (show q < 2 ^ 31 by omega), jans_at hc h1.2.2.2.2 (jd_bad h1.1 h84), Nat.add_comm]) (fun i hi => h1.2.2.2.1 i hi))
          · obtain ⟨v, hv, ev⟩ := (inR_iff (by decide)).mp h84
            rw [ev]
            have tv : tn (S.2.2.2.2.2.2.2 s c) = v := by rw [ev, tn_nI (by omega)]
            cases eo : ld_best τ p q v with
            | none =>
              skip
              refine zV_aload_n dX6_judge_87 rfl 0 rfl rfl ?_
              refine zV_getr (q' := 61) 9 dX6_judge_88 rfl fl_RX6_57 rfl (by decide) rfl rfl ?_
              refine zV_aload_n dX6_judge_91 rfl 0 rfl rfl ?_
              refine zV_getr (q' := 14) 1 dX6_judge_92 rfl fl_RX6_16 rfl (by decide) rfl rfl ?_
              refine zV_iload_n dX6_judge_95 rfl 2 rfl rfl ?_
              refine zV_iload_n dX6_judge_96 rfl 3 rfl rfl ?_
              refine zV_iload dX6_judge_97 rfl 6 rfl ?_
              refine zV_callV (E' := eX5_findPayment (g_rmv 4)) (av := [.ref 14, .int (nI p), .int (nI q), .int (nI v)]) (st := []) (b := 61) dX6_judge_99 rfl (k_RX6_294 _) rfl ⟨by decide, by decide⟩ ⟨by decide, by decide⟩ (Or.inl rfl) rfl (Nat.le_of_ble_eq_true rfl) rfl rfl rfl (c_findPayment (p := p) (q := q) (v := v) (Or.inr (Or.inl rfl)) h1.2.1 h1.2.2.1 hp hq hpq (by omega)) (fun r99 M99 z => ?_)
              obtain ⟨I99, rfl, rfl, hF99, hB99⟩ := z
              rw [eo] at hB99 ⊢
              show zV G (eX6_judge (g_rmv 5)) (0, 0) 102 [(0, .ref 0), (1, .int (nI s)), (2, .int (nI p)), (3, .int (nI q)), (4, .int (nI 0)), (5, .int (nI c)), (6, .int (nI v))] [.int (nI 0)] (mm I99 J t) _
              refine zN_if_ne (tgt := 110) dX6_judge_102 rfl rfl (by decide) (fun z => absurd z (by decide)) (fun _ => ?_)
              refine zV_iconst (v := (nI 1)) dX6_judge_105 rfl rfl ?_
              refine zV_iload dX6_judge_106 rfl 5 rfl ?_
              refine zA_iadd (z := (nI (1 + c))) dX6_judge_108 rfl  (nI_add _ _) ?_
              exact zV_ireturn dX6_judge_109 rfl rfl (PC.same hC hw (by unfold op_judge; rw [if_pos h0, tn_nI (show s < 2 ^ 31 by omega), if_neg h5, if_pos h24, tn_nI (show p < 2 ^ 31 by omega), tn_nI (show q < 2 ^ 31 by omega), jans_at hc h1.2.2.2.2 (jd_none h1.1 h84 tv eo), Nat.add_comm]) (fun i hi => by rw [hF99 i (by unfold scr at hi; omega)]; exact h1.2.2.2.1 i hi))
            | some bb =>
              have g1 := gv_lt h1.2.2.1.1 p bb
              have g2 := gv_lt h1.2.2.1.1 q bb
              refine zV_aload_n dX6_judge_87 rfl 0 rfl rfl ?_
              refine zV_getr (q' := 61) 9 dX6_judge_88 rfl fl_RX6_57 rfl (by decide) rfl rfl ?_
              refine zV_aload_n dX6_judge_91 rfl 0 rfl rfl ?_
              refine zV_getr (q' := 14) 1 dX6_judge_92 rfl fl_RX6_16 rfl (by decide) rfl rfl ?_
              refine zV_iload_n dX6_judge_95 rfl 2 rfl rfl ?_
              refine zV_iload_n dX6_judge_96 rfl 3 rfl rfl ?_
              refine zV_iload dX6_judge_97 rfl 6 rfl ?_
              refine zV_callV (E' := eX5_findPayment (g_rmv 4)) (av := [.ref 14, .int (nI p), .int (nI q), .int (nI v)]) (st := []) (b := 61) dX6_judge_99 rfl (k_RX6_294 _) rfl ⟨by decide, by decide⟩ ⟨by decide, by decide⟩ (Or.inl rfl) rfl (Nat.le_of_ble_eq_true rfl) rfl rfl rfl (c_findPayment (p := p) (q := q) (v := v) (Or.inr (Or.inl rfl)) h1.2.1 h1.2.2.1 hp hq hpq (by omega)) (fun r99 M99 z => ?_)
              obtain ⟨I99, rfl, rfl, hF99, hB99⟩ := z
              rw [eo] at hB99 ⊢
              show zV G (eX6_judge (g_rmv 5)) (0, 0) 102 [(0, .ref 0), (1, .int (nI s)), (2, .int (nI p)), (3, .int (nI q)), (4, .int (nI 0)), (5, .int (nI c)), (6, .int (nI v))] [.int (nI 1)] (mm I99 J t) _
              refine zN_if_ne (tgt := 110) dX6_judge_102 rfl rfl (by decide) (fun _ => ?_) (fun z => absurd z (by decide))
              refine zV_aload_n dX6_judge_110 rfl 0 rfl rfl ?_
              refine zV_getr (q' := 14) 1 dX6_judge_111 rfl fl_RX6_16 rfl (by decide) rfl rfl ?_
              refine zV_aload_n dX6_judge_114 rfl 0 rfl rfl ?_
              refine zV_getr (q' := 61) 9 dX6_judge_115 rfl fl_RX6_57 rfl (by decide) rfl rfl ?_
              refine zV_getI (x := (nI (gv τ p bb))) 6 dX6_judge_118 rfl fl_RX6_174 rfl (by decide) rfl ((hB99 bb rfl).1) ?_
              refine zV_iload_n dX6_judge_121 rfl 3 rfl rfl ?_
              refine zV_aload_n dX6_judge_122 rfl 0 rfl rfl ?_
              refine zV_getr (q' := 61) 9 dX6_judge_123 rfl fl_RX6_57 rfl (by decide) rfl rfl ?_
              refine zV_getI (x := (nI (gv τ q bb))) 7 dX6_judge_126 rfl fl_RX6_177 rfl (by decide) rfl ((hB99 bb rfl).2.1) ?_
              refine zV_iload_n dX6_judge_129 rfl 2 rfl rfl ?_
              refine zV_callV (E' := eX1_exchange (g_rmv 4)) (av := [.int (nI (gv τ p bb)), .int (nI q), .int (nI (gv τ q bb)), .int (nI p)]) (st := []) (b := 14) dX6_judge_130 rfl (k_RX6_180 _) rfl ⟨by decide, by decide⟩ ⟨by decide, by decide⟩ (Or.inl rfl) rfl (Nat.le_of_ble_eq_true rfl) (sh_land (Or.inr (Or.inl rfl))) rfl rfl (c_exchange (g := gv τ p bb) (to := q) (k := gv τ q bb) (fr := p) (Or.inr (Or.inl rfl)) (h1.2.1.mv h1.2.2.1.1 (fun i a c => hF99 i (by omega))) h1.2.2.1 (by omega) hq (by omega) hp (by omega)) (fun r130 M130 z => ?_)
              obtain ⟨I130, rfl, rfl, hA130, hF130⟩ := z
              show zV G (eX6_judge (g_rmv 5)) (0, 0) 133 [(0, .ref 0), (1, .int (nI s)), (2, .int (nI p)), (3, .int (nI q)), (4, .int (nI 0)), (5, .int (nI c)), (6, .int (nI v))] [] (mm I130 J t) _
              refine zV_iinc (y := (nI (c + 1))) (lv' := [(0, .ref 0), (1, .int (nI s)), (2, .int (nI p)), (3, .int (nI q)), (4, .int (nI 0)), (5, .int (nI (c + 1))), (6, .int (nI v))]) dX6_judge_133 rfl 5 rfl (nI_1 _) (by decide) rfl ?_
              refine zV_goto (tgt := 48) dX6_judge_136 rfl ?_
              refine zV_keep (lv' := [(0, .ref 0), (1, .int (nI s)), (2, .int (nI p)), (3, .int (nI q)), (4, .int (nI 0)), (5, .int (nI (c + 1)))]) [0, 1, 2, 3, 4, 5] rfl ?_
              exact ih I130 (ld_swap τ p q bb) ⟨jd_some h1.1 h84 tv eo, hA130, wf_swap (B := B + 4 * c) h1.2.2.1 hp hq (by omega), fun i hi => by rw [hF130 i (by unfold scr at hi; omega), hF99 i (by unfold scr at hi; omega)]; exact h1.2.2.2.1 i hi, fun i hi => by
                  by_cases e : i = c
                  · rw [e, jd_some h1.1 h84 tv eo]; rfl
                  · exact h1.2.2.2.2 i (by omega)⟩
      · refine zV_aload_n dX6_judge_27 rfl 0 rfl rfl ?_
        refine zV_ldc (v := (-1000001)) dX6_judge_28 rfl tw264 ?_
        refine zV_callV (E' := eX6_tell (g_rmv 1)) (av := [.int (-1000001)]) (st := []) (b := 0) dX6_judge_30 rfl (k_RX6_70 _) rfl ⟨by decide, by decide⟩ ⟨by decide, by decide⟩ (Or.inl rfl) rfl (Nat.le_of_ble_eq_true rfl) rfl rfl rfl (c_tell (w := 0) (by decide) (by decide)) (fun r30 M30 z => ?_)
        obtain ⟨rfl, rfl⟩ := z
        show zV G (eX6_judge (g_rmv 5)) (0, 0) 33 [(0, .ref 0), (1, .int (nI s)), (2, .int y), (3, .int z), (4, .int (nI 0))] [.int (fdg 0)] (mm (up2 I 67 0 (I 67 0 + nI 1)) J t) _
        exact zV_ireturn dX6_judge_33 rfl rfl (PC.tell hC hw (by unfold op_judge; rw [if_pos h0, tn_nI (show s < 2 ^ 31 by omega), if_neg h5, if_neg h24]) (fun _ _ => rfl))
  · show zV G (eX6_judge (g_rmv 5)) (0, 0) 0 [(0, .ref 0), (1, .int x), (2, .int y), (3, .int z)] [] (mm I J t) _
    refine zV_aload_n dX6_judge_0 rfl 0 rfl rfl ?_
    refine zV_iload_n dX6_judge_1 rfl 1 rfl rfl ?_
    refine zV_callV (E' := eX6_seekSheet (g_rmv 2)) (av := [.int x]) (st := []) (b := 0) dX6_judge_2 rfl (k_RX6_266 _) rfl ⟨by decide, by decide⟩ ⟨by decide, by decide⟩ (Or.inl rfl) rfl (Nat.le_of_ble_eq_true rfl) rfl rfl rfl (c_seek0 h0) (fun r2 M2 z => ?_)
    obtain ⟨rfl, rfl⟩ := z
    show zV G (eX6_judge (g_rmv 5)) (0, 0) 5 [(0, .ref 0), (1, .int x), (2, .int y), (3, .int z)] [.int (-1000001)] (mm I J t) _
    refine zV_istore (lv' := [(0, .ref 0), (1, .int x), (2, .int y), (3, .int z), (4, .int (-1000001))]) dX6_judge_5 rfl (by decide) rfl ?_
    refine zV_iload dX6_judge_7 rfl 4 rfl ?_
    refine zV_if_eq (tgt := 19) dX6_judge_9 rfl rfl  (fun z => absurd z (by decide)) (fun _ => ?_)
    refine zV_aload_n dX6_judge_12 rfl 0 rfl rfl ?_
    refine zV_iload dX6_judge_13 rfl 4 rfl ?_
    refine zV_callV (E' := eX6_tell (g_rmv 1)) (av := [.int (-1000001)]) (st := []) (b := 0) dX6_judge_15 rfl (k_RX6_70 _) rfl ⟨by decide, by decide⟩ ⟨by decide, by decide⟩ (Or.inl rfl) rfl (Nat.le_of_ble_eq_true rfl) rfl rfl rfl (c_tell (w := 0) (by decide) (by decide)) (fun r15 M15 z => ?_)
    obtain ⟨rfl, rfl⟩ := z
    show zV G (eX6_judge (g_rmv 5)) (0, 0) 18 [(0, .ref 0), (1, .int x), (2, .int y), (3, .int z), (4, .int (-1000001))] [.int (fdg 0)] (mm (up2 I 67 0 (I 67 0 + nI 1)) J t) _
    exact zV_ireturn dX6_judge_18 rfl rfl (PC.tell hC hw (by unfold op_judge; rw [if_neg h0]) (fun _ _ => rfl))
