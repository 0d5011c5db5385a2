/-! sheets of the reference; load: both classes -/
set_option maxRecDepth 100000 in
theorem m_cutTo {G : mG} {I : Nat → Nat → Int32} {J : Nat → Nat → Int64} {t : Nat} {b : Nat} {v : Int32} (h32 : b ≤ 32) : zC G yX7_cutTo (eX7_cutTo (g_rmv 0)) [.int v, .int (nI b)] (mm I J t) (fun r M => r = some (.int (cutTo v b)) ∧ M = mm I J t) := by
  refine zC_of (by decide +kernel) rfl (by decide) (Nat.le_of_ble_eq_true rfl) ?_
  show zV G (eX7_cutTo (g_rmv 0)) (0, 0) 0 [(0, .int v), (1, .int (nI b))] [] (mm I J t) _
  refine zV_iload_n dX7_cutTo_0 rfl 1 rfl rfl ?_
  refine zV_bipush (v := (nI 8)) dX7_cutTo_1 rfl rfl ?_
  refine zN_icmp_ne (tgt := 11) dX7_cutTo_3 rfl rfl (by omega) (by omega) (fun h3 => ?_) (fun h3 => ?_)
  · refine zV_iload_n dX7_cutTo_11 rfl 1 rfl rfl ?_
    refine zV_bipush (v := (nI 16)) dX7_cutTo_12 rfl rfl ?_
    refine zN_icmp_ne (tgt := 22) dX7_cutTo_14 rfl rfl (by omega) (by omega) (fun h14 => ?_) (fun h14 => ?_)
    · refine zV_iload_n dX7_cutTo_22 rfl 0 rfl rfl ?_
      exact zV_ireturn dX7_cutTo_23 rfl rfl (⟨congrArg (fun x => some (Value.int x)) (by unfold cutTo; rw [if_neg h3, if_neg h14]), rfl⟩)
    · refine zV_iload_n dX7_cutTo_17 rfl 0 rfl rfl ?_
      refine zA_i2s (z := ((v : Int32).toInt16.toInt32)) dX7_cutTo_18 rfl (rfl) ?_
      refine zV_goto (tgt := 23) dX7_cutTo_19 rfl ?_
      exact zV_ireturn dX7_cutTo_23 rfl rfl (⟨congrArg (fun x => some (Value.int x)) (by unfold cutTo; rw [if_neg h3, if_pos h14]), rfl⟩)
  · refine zV_iload_n dX7_cutTo_6 rfl 0 rfl rfl ?_
    refine zA_i2b (z := ((v : Int32).toInt8.toInt32)) dX7_cutTo_7 rfl (rfl) ?_
    refine zV_goto (tgt := 23) dX7_cutTo_8 rfl ?_
    exact zV_ireturn dX7_cutTo_23 rfl rfl (⟨congrArg (fun x => some (Value.int x)) (by unfold cutTo; rw [if_pos h3]), rfl⟩)

set_option maxRecDepth 100000 in
theorem q_sheet {G : mG} {I : Nat → Nat → Int32} {J : Nat → Nat → Int64} {t : Nat} {B : Nat} {S : aS} (hM : InvM I S) (hw : wfS B S) {x y z : Int32} : zC G yX7_sheet (eX7_sheet (g_rmv 2)) [.ref 76, .int x, .int y, .int z] (mm I J t) (fun r M => PM I (op_sheet S x y z) r M) := by
  refine zC_of (by decide +kernel) rfl (by decide) (Nat.le_of_ble_eq_true rfl) ?_
  have n10 := hw.1.1
  show zV G (eX7_sheet (g_rmv 2)) (0, 0) 0 [(0, .ref 76), (1, .int x), (2, .int y), (3, .int z)] [] (mm I J t) _
  refine zV_iload_n dX7_sheet_0 rfl 1 rfl rfl ?_
  refine zV_callS (E' := eX7_isSheet (g_rmv 1)) (av := [.int x]) (st := []) dX7_sheet_1 rfl (k_RX7_305 _) rfl ⟨by decide, by decide⟩ ⟨by decide, by decide⟩ (Or.inl rfl) rfl (Nat.le_of_ble_eq_true rfl) (m_isSheet (x := x)) (fun r1 M1 z => ?_)
  obtain ⟨rfl, rfl⟩ := z
  show zV G (eX7_sheet (g_rmv 2)) (0, 0) 4 [(0, .ref 76), (1, .int x), (2, .int y), (3, .int z)] [.int (b2 (inR x 3))] (mm I J t) _
  refine zB_if_eq (tgt := 29) dX7_sheet_4 rfl rfl  (fun h4 => ?_) (fun h4 => ?_)
  · refine zV_aload_n dX7_sheet_29 rfl 0 rfl rfl ?_
    refine zV_ldc (v := (-1000001)) dX7_sheet_30 rfl tw970 ?_
    refine zV_callV (E' := eX7_finding (g_rmv 0)) (av := [.int (-1000001)]) (st := []) (b := 76) dX7_sheet_32 rfl (k_RX7_87 _) rfl ⟨by decide, by decide⟩ ⟨by decide, by decide⟩ (Or.inl rfl) rfl (Nat.le_of_ble_eq_true rfl) rfl rfl rfl (m_finding (w := 0) (by decide) (by decide)) (fun r32 M32 z => ?_)
    obtain ⟨rfl, rfl⟩ := z
    show zV G (eX7_sheet (g_rmv 2)) (0, 0) 35 [(0, .ref 76), (1, .int x), (2, .int y), (3, .int z)] [.int (fdg 0)] (mm (mTell I 0) J t) _
    exact zV_ireturn dX7_sheet_35 rfl rfl (PM.tell hM (by decide) (by unfold op_sheet; rw [if_neg h4]) scM.rf)
  · obtain ⟨s, hs3, rfl⟩ := (inR_iff (by decide)).mp h4
    have hs : s < 4 := by omega
    by_cases hok : okBits y
    · rcases hok with rfl | rfl | rfl | rfl
      · show zV G (eX7_sheet (g_rmv 2)) (0, 0) 7 [(0, .ref 76), (1, .int (nI s)), (2, .int (nI 0)), (3, .int z)] [] (mm I J t) _
        refine zV_iload_n dX7_sheet_7 rfl 2 rfl rfl ?_
        refine zN_if_eq (tgt := 36) dX7_sheet_8 rfl rfl (by decide) (fun _ => ?_) (fun z => absurd z (by decide))
        refine zV_iload_n dX7_sheet_36 rfl 3 rfl rfl ?_
        refine zV_if_ge (tgt := 48) dX7_sheet_37 rfl rfl  (fun h37 => ?_) (fun h37 => ?_)
        · refine zV_iload_n dX7_sheet_48 rfl 3 rfl rfl ?_
          refine zV_bipush (v := (nI 40)) dX7_sheet_49 rfl rfl ?_
          refine zV_icmp_le (tgt := 61) dX7_sheet_51 rfl rfl  (fun h51 => ?_) (fun h51 => ?_)
          · obtain ⟨n, hn, rfl⟩ := (inR_iff (by decide)).mp ⟨h37, h51⟩
            refine zV_aload_n dX7_sheet_61 rfl 0 rfl rfl ?_
            refine zV_getr (q' := 86) 21 dX7_sheet_62 rfl fl_RX7_55 rfl (by decide) rfl rfl ?_
            refine zV_iload_n dX7_sheet_65 rfl 1 rfl rfl ?_
            refine zV_iload_n dX7_sheet_66 rfl 2 rfl rfl ?_
            refine zV_iastore s dX7_sheet_67 rfl rfl rfl (by omega) (by decide)  ?_
            refine zV_aload_n dX7_sheet_68 rfl 0 rfl rfl ?_
            refine zV_getr (q' := 87) 22 dX7_sheet_69 rfl fl_RX7_58 rfl (by decide) rfl rfl ?_
            refine zV_iload_n dX7_sheet_72 rfl 1 rfl rfl ?_
            refine zV_iload_n dX7_sheet_73 rfl 2 rfl rfl ?_
            refine zN_if_ne (tgt := 81) dX7_sheet_74 rfl rfl (by decide) (fun z => absurd z (by decide)) (fun _ => ?_)
            refine zV_iconst (v := (nI 0)) dX7_sheet_77 rfl rfl ?_
            refine zV_goto (tgt := 82) dX7_sheet_78 rfl ?_
            refine zV_iastore s dX7_sheet_82 rfl rfl rfl (by omega) (by decide)  ?_
            refine zV_iconst (v := (nI 0)) dX7_sheet_83 rfl rfl ?_
            refine zV_istore (lv' := [(0, .ref 76), (1, .int (nI s)), (2, .int (nI 0)), (3, .int (nI n)), (4, .int (nI 0))]) dX7_sheet_84 rfl (by decide) rfl ?_
            refine z_for (fun c => ∀ (I1 : Nat → Nat → Int32), ((∀ j, j < c → I1 88 (40 * s + j) = nI 0) ∧ (∀ i j, i ≠ s → j < 40 → I1 88 (40 * i + j) = I 88 (40 * i + j)) ∧ ∀ i, i ≠ 88 → I1 i = (up2 (up2 I 86 s (nI 0)) 87 s (nI 0)) i) → zV G (eX7_sheet (g_rmv 2)) (0, 0) 86 [(0, .ref 76), (1, .int (nI s)), (2, .int (nI 0)), (3, .int (nI n)), (4, .int (nI c))] [] (mm I1 J t) _) 40 ?_ ?_ 0 (Nat.zero_le _) (up2 (up2 I 86 s (nI 0)) 87 s (nI 0)) ⟨fun j h => absurd h (Nat.not_lt_zero _), fun i j _ _ => by rw [up2_ni (by decide), up2_ni (by decide)], fun _ _ => rfl⟩
            · intro I1 h1
              refine zV_iload dX7_sheet_86 rfl 4 rfl ?_
              refine zV_bipush (v := (nI 40)) dX7_sheet_88 rfl rfl ?_
              refine zN_icmp_ge (tgt := 112) dX7_sheet_90 rfl rfl (by omega) (by omega) (fun _ => ?_) (fun z => absurd z (by omega))
              refine zV_aload_n dX7_sheet_112 rfl 0 rfl rfl ?_
              refine zV_getr (q' := 87) 22 dX7_sheet_113 rfl fl_RX7_58 rfl (by decide) rfl rfl ?_
              refine zV_iload_n dX7_sheet_116 rfl 1 rfl rfl ?_
              refine zV_iald (x := (nI 0)) s dX7_sheet_117 rfl rfl rfl (by omega) (by decide) (by rw [h1.2.2 87 (by decide), up2_same]) ?_
              exact zV_ireturn dX7_sheet_118 rfl rfl (⟨_, _, _, by rw [show op_sheet S (nI s) (nI 0) (nI n) = (nI 0, st_s S (upN S.2.2.2.2.2.1 s 0) (upN S.2.2.2.2.2.2.1 s 0) (upN S.2.2.2.2.2.2.2 s (fun _ => nI 0))) by unfold op_sheet; rw [if_pos h4, if_pos (show okBits (nI 0) from (Or.inl rfl)), if_neg (Int32.not_lt.mpr h37), if_pos h51, tn_nI (show s < 2 ^ 31 by omega), show tn (nI 0) = 0 from tn_nI (by decide), if_pos rfl]], rfl, by rw [show op_sheet S (nI s) (nI 0) (nI n) = (nI 0, st_s S (upN S.2.2.2.2.2.1 s 0) (upN S.2.2.2.2.2.2.1 s 0) (upN S.2.2.2.2.2.2.2 s (fun _ => nI 0))) by unfold op_sheet; rw [if_pos h4, if_pos (show okBits (nI 0) from (Or.inl rfl)), if_neg (Int32.not_lt.mpr h37), if_pos h51, tn_nI (show s < 2 ^ 31 by omega), show tn (nI 0) = 0 from tn_nI (by decide), if_pos rfl]]; exact hM.sheet hs (fun i => by rw [h1.2.2 86 (by decide), up2_ni (by decide)]; by_cases e : i = s; (· rw [if_pos e, e, up2_same]); (· rw [if_neg e, up2_nk e])) (fun i => by rw [h1.2.2 87 (by decide)]; by_cases e : i = s; (· rw [if_pos e, e, up2_same]); (· rw [if_neg e, up2_nk e, up2_ni (by decide)])) h1.1 (fun i j _ hi hj => h1.2.1 i j hi hj) (fun i h86 h87 h88 _ => by rw [h1.2.2 i h88]; funext k; rw [up2_ni h87, up2_ni h86]), fun i hi => by rw [h1.2.2 i (by omega)]; funext k; rw [up2_ni (by omega), up2_ni (by omega)]⟩)
            · intro c hc ih
              intro I1 h1
              refine zV_iload dX7_sheet_86 rfl 4 rfl ?_
              refine zV_bipush (v := (nI 40)) dX7_sheet_88 rfl rfl ?_
              refine zN_icmp_ge (tgt := 112) dX7_sheet_90 rfl rfl (by omega) (by omega) (fun z => absurd z (by omega)) (fun _ => ?_)
              refine zV_aload_n dX7_sheet_93 rfl 0 rfl rfl ?_
              refine zV_getr (q' := 88) 23 dX7_sheet_94 rfl fl_RX7_61 rfl (by decide) rfl rfl ?_
              refine zV_bipush (v := (nI 40)) dX7_sheet_97 rfl rfl ?_
              refine zV_iload_n dX7_sheet_99 rfl 1 rfl rfl ?_
              refine zA_imul (z := (nI (40 * s))) dX7_sheet_100 rfl  (pk_mul _ _) ?_
              refine zV_iload dX7_sheet_101 rfl 4 rfl ?_
              refine zA_iadd (z := (nI ((40 * s) + c))) dX7_sheet_103 rfl  (nI_add _ _) ?_
              refine zV_iconst (v := (nI 0)) dX7_sheet_104 rfl rfl ?_
              refine zV_iastore ((40 * s) + c) dX7_sheet_105 rfl rfl rfl (by omega) (by decide)  ?_
              refine zV_iinc (y := (nI (c + 1))) (lv' := [(0, .ref 76), (1, .int (nI s)), (2, .int (nI 0)), (3, .int (nI n)), (4, .int (nI (c + 1)))]) dX7_sheet_106 rfl 4 rfl (nI_1 _) (by decide) rfl ?_
              refine zV_goto (tgt := 86) dX7_sheet_109 rfl ?_
              exact ih _ ⟨fun j hj => by
                  by_cases e : j = c
                  · rw [e, up2_same]
                  · rw [up2_nk (by omega)]; exact h1.1 j (by omega), fun i j hi hj => by rw [up2_nk (by omega)]; exact h1.2.1 i j hi hj, fun i hi => by rw [← h1.2.2 i hi]; funext k; exact up2_ni hi⟩
          · refine zV_aload_n dX7_sheet_54 rfl 0 rfl rfl ?_
            refine zV_ldc (v := (-1000001)) dX7_sheet_55 rfl tw970 ?_
            refine zV_callV (E' := eX7_finding (g_rmv 0)) (av := [.int (-1000001)]) (st := []) (b := 76) dX7_sheet_57 rfl (k_RX7_87 _) rfl ⟨by decide, by decide⟩ ⟨by decide, by decide⟩ (Or.inl rfl) rfl (Nat.le_of_ble_eq_true rfl) rfl rfl rfl (m_finding (w := 0) (by decide) (by decide)) (fun r57 M57 z => ?_)
            obtain ⟨rfl, rfl⟩ := z
            show zV G (eX7_sheet (g_rmv 2)) (0, 0) 60 [(0, .ref 76), (1, .int (nI s)), (2, .int (nI 0)), (3, .int z)] [.int (fdg 0)] (mm (mTell I 0) J t) _
            exact zV_ireturn dX7_sheet_60 rfl rfl (PM.tell hM (by decide) (by unfold op_sheet; rw [if_pos h4, if_pos (show okBits (nI 0) from (Or.inl rfl)), if_neg (Int32.not_lt.mpr h37), if_neg h51]) scM.rf)
        · refine zV_aload_n dX7_sheet_40 rfl 0 rfl rfl ?_
          refine zV_ldcw (v := (-1000007)) dX7_sheet_41 rfl tw1338 ?_
          refine zV_callV (E' := eX7_finding (g_rmv 0)) (av := [.int (-1000007)]) (st := []) (b := 76) dX7_sheet_44 rfl (k_RX7_87 _) rfl ⟨by decide, by decide⟩ ⟨by decide, by decide⟩ (Or.inl rfl) rfl (Nat.le_of_ble_eq_true rfl) rfl rfl rfl (m_finding (w := 6) (by decide) (by decide)) (fun r44 M44 z => ?_)
          obtain ⟨rfl, rfl⟩ := z
          show zV G (eX7_sheet (g_rmv 2)) (0, 0) 47 [(0, .ref 76), (1, .int (nI s)), (2, .int (nI 0)), (3, .int z)] [.int (fdg 6)] (mm (mTell I 6) J t) _
          exact zV_ireturn dX7_sheet_47 rfl rfl (PM.tell hM (by decide) (by unfold op_sheet; rw [if_pos h4, if_pos (show okBits (nI 0) from (Or.inl rfl)), if_pos (Int32.not_le.mp h37)]) scM.rf)
      · show zV G (eX7_sheet (g_rmv 2)) (0, 0) 7 [(0, .ref 76), (1, .int (nI s)), (2, .int (nI 8)), (3, .int z)] [] (mm I J t) _
        refine zV_iload_n dX7_sheet_7 rfl 2 rfl rfl ?_
        refine zN_if_eq (tgt := 36) dX7_sheet_8 rfl rfl (by decide) (fun z => absurd z (by decide)) (fun _ => ?_)
        refine zV_iload_n dX7_sheet_11 rfl 2 rfl rfl ?_
        refine zV_bipush (v := (nI 8)) dX7_sheet_12 rfl rfl ?_
        refine zN_icmp_eq (tgt := 36) dX7_sheet_14 rfl rfl (by decide) (by decide) (fun _ => ?_) (fun z => absurd z (by decide))
        refine zV_iload_n dX7_sheet_36 rfl 3 rfl rfl ?_
        refine zV_if_ge (tgt := 48) dX7_sheet_37 rfl rfl  (fun h37 => ?_) (fun h37 => ?_)
        · refine zV_iload_n dX7_sheet_48 rfl 3 rfl rfl ?_
          refine zV_bipush (v := (nI 40)) dX7_sheet_49 rfl rfl ?_
          refine zV_icmp_le (tgt := 61) dX7_sheet_51 rfl rfl  (fun h51 => ?_) (fun h51 => ?_)
          · obtain ⟨n, hn, rfl⟩ := (inR_iff (by decide)).mp ⟨h37, h51⟩
            refine zV_aload_n dX7_sheet_61 rfl 0 rfl rfl ?_
            refine zV_getr (q' := 86) 21 dX7_sheet_62 rfl fl_RX7_55 rfl (by decide) rfl rfl ?_
            refine zV_iload_n dX7_sheet_65 rfl 1 rfl rfl ?_
            refine zV_iload_n dX7_sheet_66 rfl 2 rfl rfl ?_
            refine zV_iastore s dX7_sheet_67 rfl rfl rfl (by omega) (by decide)  ?_
            refine zV_aload_n dX7_sheet_68 rfl 0 rfl rfl ?_
            refine zV_getr (q' := 87) 22 dX7_sheet_69 rfl fl_RX7_58 rfl (by decide) rfl rfl ?_
            refine zV_iload_n dX7_sheet_72 rfl 1 rfl rfl ?_
            refine zV_iload_n dX7_sheet_73 rfl 2 rfl rfl ?_
            refine zN_if_ne (tgt := 81) dX7_sheet_74 rfl rfl (by decide) (fun _ => ?_) (fun z => absurd z (by decide))
            refine zV_iload_n dX7_sheet_81 rfl 3 rfl rfl ?_
            refine zV_iastore s dX7_sheet_82 rfl rfl rfl (by omega) (by decide)  ?_
            refine zV_iconst (v := (nI 0)) dX7_sheet_83 rfl rfl ?_
            refine zV_istore (lv' := [(0, .ref 76), (1, .int (nI s)), (2, .int (nI 8)), (3, .int (nI n)), (4, .int (nI 0))]) dX7_sheet_84 rfl (by decide) rfl ?_
            refine z_for (fun c => ∀ (I1 : Nat → Nat → Int32), ((∀ j, j < c → I1 88 (40 * s + j) = nI 0) ∧ (∀ i j, i ≠ s → j < 40 → I1 88 (40 * i + j) = I 88 (40 * i + j)) ∧ ∀ i, i ≠ 88 → I1 i = (up2 (up2 I 86 s (nI 8)) 87 s (nI n)) i) → zV G (eX7_sheet (g_rmv 2)) (0, 0) 86 [(0, .ref 76), (1, .int (nI s)), (2, .int (nI 8)), (3, .int (nI n)), (4, .int (nI c))] [] (mm I1 J t) _) 40 ?_ ?_ 0 (Nat.zero_le _) (up2 (up2 I 86 s (nI 8)) 87 s (nI n)) ⟨fun j h => absurd h (Nat.not_lt_zero _), fun i j _ _ => by rw [up2_ni (by decide), up2_ni (by decide)], fun _ _ => rfl⟩
            · intro I1 h1
              refine zV_iload dX7_sheet_86 rfl 4 rfl ?_
              refine zV_bipush (v := (nI 40)) dX7_sheet_88 rfl rfl ?_
              refine zN_icmp_ge (tgt := 112) dX7_sheet_90 rfl rfl (by omega) (by omega) (fun _ => ?_) (fun z => absurd z (by omega))
              refine zV_aload_n dX7_sheet_112 rfl 0 rfl rfl ?_
              refine zV_getr (q' := 87) 22 dX7_sheet_113 rfl fl_RX7_58 rfl (by decide) rfl rfl ?_
              refine zV_iload_n dX7_sheet_116 rfl 1 rfl rfl ?_
              refine zV_iald (x := (nI n)) s dX7_sheet_117 rfl rfl rfl (by omega) (by decide) (by rw [h1.2.2 87 (by decide), up2_same]) ?_
              exact zV_ireturn dX7_sheet_118 rfl rfl (⟨_, _, _, by rw [show op_sheet S (nI s) (nI 8) (nI n) = (nI n, st_s S (upN S.2.2.2.2.2.1 s 8) (upN S.2.2.2.2.2.2.1 s n) (upN S.2.2.2.2.2.2.2 s (fun _ => nI 0))) by unfold op_sheet; rw [if_pos h4, if_pos (show okBits (nI 8) from (Or.inr (Or.inl rfl))), if_neg (Int32.not_lt.mpr h37), if_pos h51, tn_nI (show s < 2 ^ 31 by omega), show tn (nI 8) = 8 from tn_nI (by decide), if_neg (show ¬ nI 8 = nI 0 by decide), tn_nI (show n < 2 ^ 31 by omega)]], rfl, by rw [show op_sheet S (nI s) (nI 8) (nI n) = (nI n, st_s S (upN S.2.2.2.2.2.1 s 8) (upN S.2.2.2.2.2.2.1 s n) (upN S.2.2.2.2.2.2.2 s (fun _ => nI 0))) by unfold op_sheet; rw [if_pos h4, if_pos (show okBits (nI 8) from (Or.inr (Or.inl rfl))), if_neg (Int32.not_lt.mpr h37), if_pos h51, tn_nI (show s < 2 ^ 31 by omega), show tn (nI 8) = 8 from tn_nI (by decide), if_neg (show ¬ nI 8 = nI 0 by decide), tn_nI (show n < 2 ^ 31 by omega)]]; exact hM.sheet hs (fun i => by rw [h1.2.2 86 (by decide), up2_ni (by decide)]; by_cases e : i = s; (· rw [if_pos e, e, up2_same]); (· rw [if_neg e, up2_nk e])) (fun i => by rw [h1.2.2 87 (by decide)]; by_cases e : i = s; (· rw [if_pos e, e, up2_same]); (· rw [if_neg e, up2_nk e, up2_ni (by decide)])) h1.1 (fun i j _ hi hj => h1.2.1 i j hi hj) (fun i h86 h87 h88 _ => by rw [h1.2.2 i h88]; funext k; rw [up2_ni h87, up2_ni h86]), fun i hi => by rw [h1.2.2 i (by omega)]; funext k; rw [up2_ni (by omega), up2_ni (by omega)]⟩)
            · intro c hc ih
              intro I1 h1
              refine zV_iload dX7_sheet_86 rfl 4 rfl ?_
              refine zV_bipush (v := (nI 40)) dX7_sheet_88 rfl rfl ?_
              refine zN_icmp_ge (tgt := 112) dX7_sheet_90 rfl rfl (by omega) (by omega) (fun z => absurd z (by omega)) (fun _ => ?_)
              refine zV_aload_n dX7_sheet_93 rfl 0 rfl rfl ?_
              refine zV_getr (q' := 88) 23 dX7_sheet_94 rfl fl_RX7_61 rfl (by decide) rfl rfl ?_
              refine zV_bipush (v := (nI 40)) dX7_sheet_97 rfl rfl ?_
              refine zV_iload_n dX7_sheet_99 rfl 1 rfl rfl ?_
              refine zA_imul (z := (nI (40 * s))) dX7_sheet_100 rfl  (pk_mul _ _) ?_
              refine zV_iload dX7_sheet_101 rfl 4 rfl ?_
              refine zA_iadd (z := (nI ((40 * s) + c))) dX7_sheet_103 rfl  (nI_add _ _) ?_
              refine zV_iconst (v := (nI 0)) dX7_sheet_104 rfl rfl ?_
              refine zV_iastore ((40 * s) + c) dX7_sheet_105 rfl rfl rfl (by omega) (by decide)  ?_
              refine zV_iinc (y := (nI (c + 1))) (lv' := [(0, .ref 76), (1, .int (nI s)), (2, .int (nI 8)), (3, .int (nI n)), (4, .int (nI (c + 1)))]) dX7_sheet_106 rfl 4 rfl (nI_1 _) (by decide) rfl ?_
              refine zV_goto (tgt := 86) dX7_sheet_109 rfl ?_
              exact ih _ ⟨fun j hj => by
                  by_cases e : j = c
                  · rw [e, up2_same]
                  · rw [up2_nk (by omega)]; exact h1.1 j (by omega), fun i j hi hj => by rw [up2_nk (by omega)]; exact h1.2.1 i j hi hj, fun i hi => by rw [← h1.2.2 i hi]; funext k; exact up2_ni hi⟩
          · refine zV_aload_n dX7_sheet_54 rfl 0 rfl rfl ?_
            refine zV_ldc (v := (-1000001)) dX7_sheet_55 rfl tw970 ?_
            refine zV_callV (E' := eX7_finding (g_rmv 0)) (av := [.int (-1000001)]) (st := []) (b := 76) dX7_sheet_57 rfl (k_RX7_87 _) rfl ⟨by decide, by decide⟩ ⟨by decide, by decide⟩ (Or.inl rfl) rfl (Nat.le_of_ble_eq_true rfl) rfl rfl rfl (m_finding (w := 0) (by decide) (by decide)) (fun r57 M57 z => ?_)
            obtain ⟨rfl, rfl⟩ := z
            show zV G (eX7_sheet (g_rmv 2)) (0, 0) 60 [(0, .ref 76), (1, .int (nI s)), (2, .int (nI 8)), (3, .int z)] [.int (fdg 0)] (mm (mTell I 0) J t) _
            exact zV_ireturn dX7_sheet_60 rfl rfl (PM.tell hM (by decide) (by unfold op_sheet; rw [if_pos h4, if_pos (show okBits (nI 8) from (Or.inr (Or.inl rfl))), if_neg (Int32.not_lt.mpr h37), if_neg h51]) scM.rf)
        · refine zV_aload_n dX7_sheet_40 rfl 0 rfl rfl ?_
          refine zV_ldcw (v := (-1000007)) dX7_sheet_41 rfl tw1338 ?_
          refine zV_callV (E' := eX7_finding (g_rmv 0)) (av := [.int (-1000007)]) (st := []) (b := 76) dX7_sheet_44 rfl (k_RX7_87 _) rfl ⟨by decide, by decide⟩ ⟨by decide, by decide⟩ (Or.inl rfl) rfl (Nat.le_of_ble_eq_true rfl) rfl rfl rfl (m_finding (w := 6) (by decide) (by decide)) (fun r44 M44 z => ?_)
          obtain ⟨rfl, rfl⟩ := z
          show zV G (eX7_sheet (g_rmv 2)) (0, 0) 47 [(0, .ref 76), (1, .int (nI s)), (2, .int (nI 8)), (3, .int z)] [.int (fdg 6)] (mm (mTell I 6) J t) _
          exact zV_ireturn dX7_sheet_47 rfl rfl (PM.tell hM (by decide) (by unfold op_sheet; rw [if_pos h4, if_pos (show okBits (nI 8) from (Or.inr (Or.inl rfl))), if_pos (Int32.not_le.mp h37)]) scM.rf)
      · show zV G (eX7_sheet (g_rmv 2)) (0, 0) 7 [(0, .ref 76), (1, .int (nI s)), (2, .int (nI 16)), (3, .int z)] [] (mm I J t) _
        refine zV_iload_n dX7_sheet_7 rfl 2 rfl rfl ?_
        refine zN_if_eq (tgt := 36) dX7_sheet_8 rfl rfl (by decide) (fun z => absurd z (by decide)) (fun _ => ?_)
        refine zV_iload_n dX7_sheet_11 rfl 2 rfl rfl ?_
        refine zV_bipush (v := (nI 8)) dX7_sheet_12 rfl rfl ?_
        refine zN_icmp_eq (tgt := 36) dX7_sheet_14 rfl rfl (by decide) (by decide) (fun z => absurd z (by decide)) (fun _ => ?_)
        refine zV_iload_n dX7_sheet_17 rfl 2 rfl rfl ?_
        refine zV_bipush (v := (nI 16)) dX7_sheet_18 rfl rfl ?_
        refine zN_icmp_eq (tgt := 36) dX7_sheet_20 rfl rfl (by decide) (by decide) (fun _ => ?_) (fun z => absurd z (by decide))
        refine zV_iload_n dX7_sheet_36 rfl 3 rfl rfl ?_
        refine zV_if_ge (tgt := 48) dX7_sheet_37 rfl rfl  (fun h37 => ?_) (fun h37 => ?_)
        · refine zV_iload_n dX7_sheet_48 rfl 3 rfl rfl ?_
          refine zV_bipush (v := (nI 40)) dX7_sheet_49 rfl rfl ?_
          refine zV_icmp_le (tgt := 61) dX7_sheet_51 rfl rfl  (fun h51 => ?_) (fun h51 => ?_)
          · obtain ⟨n, hn, rfl⟩ := (inR_iff (by decide)).mp ⟨h37, h51⟩
            refine zV_aload_n dX7_sheet_61 rfl 0 rfl rfl ?_
            refine zV_getr (q' := 86) 21 dX7_sheet_62 rfl fl_RX7_55 rfl (by decide) rfl rfl ?_
            refine zV_iload_n dX7_sheet_65 rfl 1 rfl rfl ?_
            refine zV_iload_n dX7_sheet_66 rfl 2 rfl rfl ?_
            refine zV_iastore s dX7_sheet_67 rfl rfl rfl (by omega) (by decide)  ?_
            refine zV_aload_n dX7_sheet_68 rfl 0 rfl rfl ?_
            refine zV_getr (q' := 87) 22 dX7_sheet_69 rfl fl_RX7_58 rfl (by decide) rfl rfl ?_
            refine zV_iload_n dX7_sheet_72 rfl 1 rfl rfl ?_
            refine zV_iload_n dX7_sheet_73 rfl 2 rfl rfl ?_
            refine zN_if_ne (tgt := 81) dX7_sheet_74 rfl rfl (by decide) (fun _ => ?_) (fun z => absurd z (by decide))
            refine zV_iload_n dX7_sheet_81 rfl 3 rfl rfl ?_
            refine zV_iastore s dX7_sheet_82 rfl rfl rfl (by omega) (by decide)  ?_
            refine zV_iconst (v := (nI 0)) dX7_sheet_83 rfl rfl ?_
            refine zV_istore (lv' := [(0, .ref 76), (1, .int (nI s)), (2, .int (nI 16)), (3, .int (nI n)), (4, .int (nI 0))]) dX7_sheet_84 rfl (by decide) rfl ?_
            refine z_for (fun c => ∀ (I1 : Nat → Nat → Int32), ((∀ j, j < c → I1 88 (40 * s + j) = nI 0) ∧ (∀ i j, i ≠ s → j < 40 → I1 88 (40 * i + j) = I 88 (40 * i + j)) ∧ ∀ i, i ≠ 88 → I1 i = (up2 (up2 I 86 s (nI 16)) 87 s (nI n)) i) → zV G (eX7_sheet (g_rmv 2)) (0, 0) 86 [(0, .ref 76), (1, .int (nI s)), (2, .int (nI 16)), (3, .int (nI n)), (4, .int (nI c))] [] (mm I1 J t) _) 40 ?_ ?_ 0 (Nat.zero_le _) (up2 (up2 I 86 s (nI 16)) 87 s (nI n)) ⟨fun j h => absurd h (Nat.not_lt_zero _), fun i j _ _ => by rw [up2_ni (by decide), up2_ni (by decide)], fun _ _ => rfl⟩
            · intro I1 h1
              refine zV_iload dX7_sheet_86 rfl 4 rfl ?_
              refine zV_bipush (v := (nI 40)) dX7_sheet_88 rfl rfl ?_
              refine zN_icmp_ge (tgt := 112) dX7_sheet_90 rfl rfl (by omega) (by omega) (fun _ => ?_) (fun z => absurd z (by omega))
              refine zV_aload_n dX7_sheet_112 rfl 0 rfl rfl ?_
              refine zV_getr (q' := 87) 22 dX7_sheet_113 rfl fl_RX7_58 rfl (by decide) rfl rfl ?_
              refine zV_iload_n dX7_sheet_116 rfl 1 rfl rfl ?_
              refine zV_iald (x := (nI n)) s dX7_sheet_117 rfl rfl rfl (by omega) (by decide) (by rw [h1.2.2 87 (by decide), up2_same]) ?_
              exact zV_ireturn dX7_sheet_118 rfl rfl (⟨_, _, _, by rw [show op_sheet S (nI s) (nI 16) (nI n) = (nI n, st_s S (upN S.2.2.2.2.2.1 s 16) (upN S.2.2.2.2.2.2.1 s n) (upN S.2.2.2.2.2.2.2 s (fun _ => nI 0))) by unfold op_sheet; rw [if_pos h4, if_pos (show okBits (nI 16) from (Or.inr (Or.inr (Or.inl rfl)))), if_neg (Int32.not_lt.mpr h37), if_pos h51, tn_nI (show s < 2 ^ 31 by omega), show tn (nI 16) = 16 from tn_nI (by decide), if_neg (show ¬ nI 16 = nI 0 by decide), tn_nI (show n < 2 ^ 31 by omega)]], rfl, by rw [show op_sheet S (nI s) (nI 16) (nI n) = (nI n, st_s S (upN S.2.2.2.2.2.1 s 16) (upN S.2.2.2.2.2.2.1 s n) (upN S.2.2.2.2.2.2.2 s (fun _ => nI 0))) by unfold op_sheet; rw [if_pos h4, if_pos (show okBits (nI 16) from (Or.inr (Or.inr (Or.inl rfl)))), if_neg (Int32.not_lt.mpr h37), if_pos h51, tn_nI (show s < 2 ^ 31 by omega), show tn (nI 16) = 16 from tn_nI (by decide), if_neg (show ¬ nI 16 = nI 0 by decide), tn_nI (show n < 2 ^ 31 by omega)]]; exact hM.sheet hs (fun i => by rw [h1.2.2 86 (by decide), up2_ni (by decide)]; by_cases e : i = s; (· rw [if_pos e, e, up2_same]); (· rw [if_neg e, up2_nk e])) (fun i => by rw [h1.2.2 87 (by decide)]; by_cases e : i = s; (· rw [if_pos e, e, up2_same]); (· rw [if_neg e, up2_nk e, up2_ni (by decide)])) h1.1 (fun i j _ hi hj => h1.2.1 i j hi hj) (fun i h86 h87 h88 _ => by rw [h1.2.2 i h88]; funext k; rw [up2_ni h87, up2_ni h86]), fun i hi => by rw [h1.2.2 i (by omega)]; funext k; rw [up2_ni (by omega), up2_ni (by omega)]⟩)
            · intro c hc ih
              intro I1 h1
              refine zV_iload dX7_sheet_86 rfl 4 rfl ?_
              refine zV_bipush (v := (nI 40)) dX7_sheet_88 rfl rfl ?_
              refine zN_icmp_ge (tgt := 112) dX7_sheet_90 rfl rfl (by omega) (by omega) (fun z => absurd z (by omega)) (fun _ => ?_)
              refine zV_aload_n dX7_sheet_93 rfl 0 rfl rfl ?_
              refine zV_getr (q' := 88) 23 dX7_sheet_94 rfl fl_RX7_61 rfl (by decide) rfl rfl ?_
              refine zV_bipush (v := (nI 40)) dX7_sheet_97 rfl rfl ?_
              refine zV_iload_n dX7_sheet_99 rfl 1 rfl rfl ?_
              refine zA_imul (z := (nI (40 * s))) dX7_sheet_100 rfl  (pk_mul _ _) ?_
              refine zV_iload dX7_sheet_101 rfl 4 rfl ?_
              refine zA_iadd (z := (nI ((40 * s) + c))) dX7_sheet_103 rfl  (nI_add _ _) ?_
              refine zV_iconst (v := (nI 0)) dX7_sheet_104 rfl rfl ?_
              refine zV_iastore ((40 * s) + c) dX7_sheet_105 rfl rfl rfl (by omega) (by decide)  ?_
              refine zV_iinc (y := (nI (c + 1))) (lv' := [(0, .ref 76), (1, .int (nI s)), (2, .int (nI 16)), (3, .int (nI n)), (4, .int (nI (c + 1)))]) dX7_sheet_106 rfl 4 rfl (nI_1 _) (by decide) rfl ?_
              refine zV_goto (tgt := 86) dX7_sheet_109 rfl ?_
              exact ih _ ⟨fun j hj => by
                  by_cases e : j = c
                  · rw [e, up2_same]
                  · rw [up2_nk (by omega)]; exact h1.1 j (by omega), fun i j hi hj => by rw [up2_nk (by omega)]; exact h1.2.1 i j hi hj, fun i hi => by rw [← h1.2.2 i hi]; funext k; exact up2_ni hi⟩
          · refine zV_aload_n dX7_sheet_54 rfl 0 rfl rfl ?_
            refine zV_ldc (v := (-1000001)) dX7_sheet_55 rfl tw970 ?_
            refine zV_callV (E' := eX7_finding (g_rmv 0)) (av := [.int (-1000001)]) (st := []) (b := 76) dX7_sheet_57 rfl (k_RX7_87 _) rfl ⟨by decide, by decide⟩ ⟨by decide, by decide⟩ (Or.inl rfl) rfl (Nat.le_of_ble_eq_true rfl) rfl rfl rfl (m_finding (w := 0) (by decide) (by decide)) (fun r57 M57 z => ?_)
            obtain ⟨rfl, rfl⟩ := z
            show zV G (eX7_sheet (g_rmv 2)) (0, 0) 60 [(0, .ref 76), (1, .int (nI s)), (2, .int (nI 16)), (3, .int z)] [.int (fdg 0)] (mm (mTell I 0) J t) _
            exact zV_ireturn dX7_sheet_60 rfl rfl (PM.tell hM (by decide) (by unfold op_sheet; rw [if_pos h4, if_pos (show okBits (nI 16) from (Or.inr (Or.inr (Or.inl rfl)))), if_neg (Int32.not_lt.mpr h37), if_neg h51]) scM.rf)
        · refine zV_aload_n dX7_sheet_40 rfl 0 rfl rfl ?_
          refine zV_ldcw (v := (-1000007)) dX7_sheet_41 rfl tw1338 ?_
          refine zV_callV (E' := eX7_finding (g_rmv 0)) (av := [.int (-1000007)]) (st := []) (b := 76) dX7_sheet_44 rfl (k_RX7_87 _) rfl ⟨by decide, by decide⟩ ⟨by decide, by decide⟩ (Or.inl rfl) rfl (Nat.le_of_ble_eq_true rfl) rfl rfl rfl (m_finding (w := 6) (by decide) (by decide)) (fun r44 M44 z => ?_)
          obtain ⟨rfl, rfl⟩ := z
          show zV G (eX7_sheet (g_rmv 2)) (0, 0) 47 [(0, .ref 76), (1, .int (nI s)), (2, .int (nI 16)), (3, .int z)] [.int (fdg 6)] (mm (mTell I 6) J t) _
          exact zV_ireturn dX7_sheet_47 rfl rfl (PM.tell hM (by decide) (by unfold op_sheet; rw [if_pos h4, if_pos (show okBits (nI 16) from (Or.inr (Or.inr (Or.inl rfl)))), if_pos (Int32.not_le.mp h37)]) scM.rf)
      · show zV G (eX7_sheet (g_rmv 2)) (0, 0) 7 [(0, .ref 76), (1, .int (nI s)), (2, .int (nI 32)), (3, .int z)] [] (mm I J t) _
        refine zV_iload_n dX7_sheet_7 rfl 2 rfl rfl ?_
        refine zN_if_eq (tgt := 36) dX7_sheet_8 rfl rfl (by decide) (fun z => absurd z (by decide)) (fun _ => ?_)
        refine zV_iload_n dX7_sheet_11 rfl 2 rfl rfl ?_
        refine zV_bipush (v := (nI 8)) dX7_sheet_12 rfl rfl ?_
        refine zN_icmp_eq (tgt := 36) dX7_sheet_14 rfl rfl (by decide) (by decide) (fun z => absurd z (by decide)) (fun _ => ?_)
        refine zV_iload_n dX7_sheet_17 rfl 2 rfl rfl ?_
        refine zV_bipush (v := (nI 16)) dX7_sheet_18 rfl rfl ?_
        refine zN_icmp_eq (tgt := 36) dX7_sheet_20 rfl rfl (by decide) (by decide) (fun z => absurd z (by decide)) (fun _ => ?_)
        refine zV_iload_n dX7_sheet_23 rfl 2 rfl rfl ?_
        refine zV_bipush (v := (nI 32)) dX7_sheet_24 rfl rfl ?_
        refine zN_icmp_eq (tgt := 36) dX7_sheet_26 rfl rfl (by decide) (by decide) (fun _ => ?_) (fun z => absurd z (by decide))
        refine zV_iload_n dX7_sheet_36 rfl 3 rfl rfl ?_
        refine zV_if_ge (tgt := 48) dX7_sheet_37 rfl rfl  (fun h37 => ?_) (fun h37 => ?_)
        · refine zV_iload_n dX7_sheet_48 rfl 3 rfl rfl ?_
          refine zV_bipush (v := (nI 40)) dX7_sheet_49 rfl rfl ?_
          refine zV_icmp_le (tgt := 61) dX7_sheet_51 rfl rfl  (fun h51 => ?_) (fun h51 => ?_)
          · obtain ⟨n, hn, rfl⟩ := (inR_iff (by decide)).mp ⟨h37, h51⟩
            refine zV_aload_n dX7_sheet_61 rfl 0 rfl rfl ?_
            refine zV_getr (q' := 86) 21 dX7_sheet_62 rfl fl_RX7_55 rfl (by decide) rfl rfl ?_
            refine zV_iload_n dX7_sheet_65 rfl 1 rfl rfl ?_
            refine zV_iload_n dX7_sheet_66 rfl 2 rfl rfl ?_
            refine zV_iastore s dX7_sheet_67 rfl rfl rfl (by omega) (by decide)  ?_
            refine zV_aload_n dX7_sheet_68 rfl 0 rfl rfl ?_
            refine zV_getr (q' := 87) 22 dX7_sheet_69 rfl fl_RX7_58 rfl (by decide) rfl rfl ?_
            refine zV_iload_n dX7_sheet_72 rfl 1 rfl rfl ?_
            refine zV_iload_n dX7_sheet_73 rfl 2 rfl rfl ?_
            refine zN_if_ne (tgt := 81) dX7_sheet_74 rfl rfl (by decide) (fun _ => ?_) (fun z => absurd z (by decide))
            refine zV_iload_n dX7_sheet_81 rfl 3 rfl rfl ?_
            refine zV_iastore s dX7_sheet_82 rfl rfl rfl (by omega) (by decide)  ?_
            refine zV_iconst (v := (nI 0)) dX7_sheet_83 rfl rfl ?_
            refine zV_istore (lv' := [(0, .ref 76), (1, .int (nI s)), (2, .int (nI 32)), (3, .int (nI n)), (4, .int (nI 0))]) dX7_sheet_84 rfl (by decide) rfl ?_
            refine z_for (fun c => ∀ (I1 : Nat → Nat → Int32), ((∀ j, j < c → I1 88 (40 * s + j) = nI 0) ∧ (∀ i j, i ≠ s → j < 40 → I1 88 (40 * i + j) = I 88 (40 * i + j)) ∧ ∀ i, i ≠ 88 → I1 i = (up2 (up2 I 86 s (nI 32)) 87 s (nI n)) i) → zV G (eX7_sheet (g_rmv 2)) (0, 0) 86 [(0, .ref 76), (1, .int (nI s)), (2, .int (nI 32)), (3, .int (nI n)), (4, .int (nI c))] [] (mm I1 J t) _) 40 ?_ ?_ 0 (Nat.zero_le _) (up2 (up2 I 86 s (nI 32)) 87 s (nI n)) ⟨fun j h => absurd h (Nat.not_lt_zero _), fun i j _ _ => by rw [up2_ni (by decide), up2_ni (by decide)], fun _ _ => rfl⟩
            · intro I1 h1
              refine zV_iload dX7_sheet_86 rfl 4 rfl ?_
              refine zV_bipush (v := (nI 40)) dX7_sheet_88 rfl rfl ?_
              refine zN_icmp_ge (tgt := 112) dX7_sheet_90 rfl rfl (by omega) (by omega) (fun _ => ?_) (fun z => absurd z (by omega))
              refine zV_aload_n dX7_sheet_112 rfl 0 rfl rfl ?_
              refine zV_getr (q' := 87) 22 dX7_sheet_113 rfl fl_RX7_58 rfl (by decide) rfl rfl ?_
              refine zV_iload_n dX7_sheet_116 rfl 1 rfl rfl ?_
              refine zV_iald (x := (nI n)) s dX7_sheet_117 rfl rfl rfl (by omega) (by decide) (by rw [h1.2.2 87 (by decide), up2_same]) ?_
              exact zV_ireturn dX7_sheet_118 rfl rfl (⟨_, _, _, by rw [show op_sheet S (nI s) (nI 32) (nI n) = (nI n, st_s S (upN S.2.2.2.2.2.1 s 32) (upN S.2.2.2.2.2.2.1 s n) (upN S.2.2.2.2.2.2.2 s (fun _ => nI 0))) by unfold op_sheet; rw [if_pos h4, if_pos (show okBits (nI 32) from (Or.inr (Or.inr (Or.inr rfl)))), if_neg (Int32.not_lt.mpr h37), if_pos h51, tn_nI (show s < 2 ^ 31 by omega), show tn (nI 32) = 32 from tn_nI (by decide), if_neg (show ¬ nI 32 = nI 0 by decide), tn_nI (show n < 2 ^ 31 by omega)]], rfl, by rw [show op_sheet S (nI s) (nI 32) (nI n) = (nI n, st_s S (upN S.2.2.2.2.2.1 s 32) (upN S.2.2.2.2.2.2.1 s n) (upN S.2.2.2.2.2.2.2 s (fun _ => nI 0))) by unfold op_sheet; rw [if_pos h4, if_pos (show okBits (nI 32) from (Or.inr (Or.inr (Or.inr rfl)))), if_neg (Int32.not_lt.mpr h37), if_pos h51, tn_nI (show s < 2 ^ 31 by omega), show tn (nI 32) = 32 from tn_nI (by decide), if_neg (show ¬ nI 32 = nI 0 by decide), tn_nI (show n < 2 ^ 31 by omega)]]; exact hM.sheet hs (fun i => by rw [h1.2.2 86 (by decide), up2_ni (by decide)]; by_cases e : i = s; (· rw [if_pos e, e, up2_same]); (· rw [if_neg e, up2_nk e])) (fun i => by rw [h1.2.2 87 (by decide)]; by_cases e : i = s; (· rw [if_pos e, e, up2_same]); (· rw [if_neg e, up2_nk e, up2_ni (by decide)])) h1.1 (fun i j _ hi hj => h1.2.1 i j hi hj) (fun i h86 h87 h88 _ => by rw [h1.2.2 i h88]; funext k; rw [up2_ni h87, up2_ni h86]), fun i hi => by rw [h1.2.2 i (by omega)]; funext k; rw [up2_ni (by omega), up2_ni (by omega)]⟩)
            · intro c hc ih
              intro I1 h1
              refine zV_iload dX7_sheet_86 rfl 4 rfl ?_
              refine zV_bipush (v := (nI 40)) dX7_sheet_88 rfl rfl ?_
              refine zN_icmp_ge (tgt := 112) dX7_sheet_90 rfl rfl (by omega) (by omega) (fun z => absurd z (by omega)) (fun _ => ?_)
              refine zV_aload_n dX7_sheet_93 rfl 0 rfl rfl ?_
              refine zV_getr (q' := 88) 23 dX7_sheet_94 rfl fl_RX7_61 rfl (by decide) rfl rfl ?_
              refine zV_bipush (v := (nI 40)) dX7_sheet_97 rfl rfl ?_
              refine zV_iload_n dX7_sheet_99 rfl 1 rfl rfl ?_
              refine zA_imul (z := (nI (40 * s))) dX7_sheet_100 rfl  (pk_mul _ _) ?_
              refine zV_iload dX7_sheet_101 rfl 4 rfl ?_
              refine zA_iadd (z := (nI ((40 * s) + c))) dX7_sheet_103 rfl  (nI_add _ _) ?_
              refine zV_iconst (v := (nI 0)) dX7_sheet_104 rfl rfl ?_
              refine zV_iastore ((40 * s) + c) dX7_sheet_105 rfl rfl rfl (by omega) (by decide)  ?_
              refine zV_iinc (y := (nI (c + 1))) (lv' := [(0, .ref 76), (1, .int (nI s)), (2, .int (nI 32)), (3, .int (nI n)), (4, .int (nI (c + 1)))]) dX7_sheet_106 rfl 4 rfl (nI_1 _) (by decide) rfl ?_
              refine zV_goto (tgt := 86) dX7_sheet_109 rfl ?_
              exact ih _ ⟨fun j hj => by
                  by_cases e : j = c
                  · rw [e, up2_same]
                  · rw [up2_nk (by omega)]; exact h1.1 j (by omega), fun i j hi hj => by rw [up2_nk (by omega)]; exact h1.2.1 i j hi hj, fun i hi => by rw [← h1.2.2 i hi]; funext k; exact up2_ni hi⟩
          · refine zV_aload_n dX7_sheet_54 rfl 0 rfl rfl ?_
            refine zV_ldc (v := (-1000001)) dX7_sheet_55 rfl tw970 ?_
            refine zV_callV (E' := eX7_finding (g_rmv 0)) (av := [.int (-1000001)]) (st := []) (b := 76) dX7_sheet_57 rfl (k_RX7_87 _) rfl ⟨by decide, by decide⟩ ⟨by decide, by decide⟩ (Or.inl rfl) rfl (Nat.le_of_ble_eq_true rfl) rfl rfl rfl (m_finding (w := 0) (by decide) (by decide)) (fun r57 M57 z => ?_)
            obtain ⟨rfl, rfl⟩ := z
            show zV G (eX7_sheet (g_rmv 2)) (0, 0) 60 [(0, .ref 76), (1, .int (nI s)), (2, .int (nI 32)), (3, .int z)] [.int (fdg 0)] (mm (mTell I 0) J t) _
            exact zV_ireturn dX7_sheet_60 rfl rfl (PM.tell hM (by decide) (by unfold op_sheet; rw [if_pos h4, if_pos (show okBits (nI 32) from (Or.inr (Or.inr (Or.inr rfl)))), if_neg (Int32.not_lt.mpr h37), if_neg h51]) scM.rf)
        · refine zV_aload_n dX7_sheet_40 rfl 0 rfl rfl ?_
          refine zV_ldcw (v := (-1000007)) dX7_sheet_41 rfl tw1338 ?_
          refine zV_callV (E' := eX7_finding (g_rmv 0)) (av := [.int (-1000007)]) (st := []) (b := 76) dX7_sheet_44 rfl (k_RX7_87 _) rfl ⟨by decide, by decide⟩ ⟨by decide, by decide⟩ (Or.inl rfl) rfl (Nat.le_of_ble_eq_true rfl) rfl rfl rfl (m_finding (w := 6) (by decide) (by decide)) (fun r44 M44 z => ?_)
          obtain ⟨rfl, rfl⟩ := z
          show zV G (eX7_sheet (g_rmv 2)) (0, 0) 47 [(0, .ref 76), (1, .int (nI s)), (2, .int (nI 32)), (3, .int z)] [.int (fdg 6)] (mm (mTell I 6) J t) _
          exact zV_ireturn dX7_sheet_47 rfl rfl (PM.tell hM (by decide) (by unfold op_sheet; rw [if_pos h4, if_pos (show okBits (nI 32) from (Or.inr (Or.inr (Or.inr rfl)))), if_pos (Int32.not_le.mp h37)]) scM.rf)
    · refine zV_iload_n dX7_sheet_7 rfl 2 rfl rfl ?_
      refine zV_if_eq (tgt := 36) dX7_sheet_8 rfl rfl  (fun z => absurd z (fun z => hok (Or.inl z))) (fun _ => ?_)
      refine zV_iload_n dX7_sheet_11 rfl 2 rfl rfl ?_
      refine zV_bipush (v := (nI 8)) dX7_sheet_12 rfl rfl ?_
      refine zV_icmp_eq (tgt := 36) dX7_sheet_14 rfl rfl  (fun z => absurd z (fun z => hok (Or.inr (Or.inl z)))) (fun _ => ?_)
      refine zV_iload_n dX7_sheet_17 rfl 2 rfl rfl ?_
      refine zV_bipush (v := (nI 16)) dX7_sheet_18 rfl rfl ?_
      refine zV_icmp_eq (tgt := 36) dX7_sheet_20 rfl rfl  (fun z => absurd z (fun z => hok (Or.inr (Or.inr (Or.inl z))))) (fun _ => ?_)
      refine zV_iload_n dX7_sheet_23 rfl 2 rfl rfl ?_
      refine zV_bipush (v := (nI 32)) dX7_sheet_24 rfl rfl ?_
      refine zV_icmp_eq (tgt := 36) dX7_sheet_26 rfl rfl  (fun z => absurd z (fun z => hok (Or.inr (Or.inr (Or.inr z))))) (fun _ => ?_)
      refine zV_aload_n dX7_sheet_29 rfl 0 rfl rfl ?_
      refine zV_ldc (v := (-1000001)) dX7_sheet_30 rfl tw970 ?_
      refine zV_callV (E' := eX7_finding (g_rmv 0)) (av := [.int (-1000001)]) (st := []) (b := 76) dX7_sheet_32 rfl (k_RX7_87 _) rfl ⟨by decide, by decide⟩ ⟨by decide, by decide⟩ (Or.inl rfl) rfl (Nat.le_of_ble_eq_true rfl) rfl rfl rfl (m_finding (w := 0) (by decide) (by decide)) (fun r32 M32 z => ?_)
      obtain ⟨rfl, rfl⟩ := z
      show zV G (eX7_sheet (g_rmv 2)) (0, 0) 35 [(0, .ref 76), (1, .int (nI s)), (2, .int y), (3, .int z)] [.int (fdg 0)] (mm (mTell I 0) J t) _
      exact zV_ireturn dX7_sheet_35 rfl rfl (PM.tell hM (by decide) (by unfold op_sheet; rw [if_pos h4, if_neg hok]) scM.rf)

set_option maxRecDepth 100000 in
theorem q_write {G : mG} {I : Nat → Nat → Int32} {J : Nat → Nat → Int64} {t : Nat} {B : Nat} {S : aS} (hM : InvM I S) (hw : wfS B S) {x y v : Int32} : zC G yX7_write (eX7_write (g_rmv 2)) [.ref 76, .int x, .int y, .int v] (mm I J t) (fun r M => PM I (op_write S x y v) r M) := by
  refine zC_of (by decide +kernel) rfl (by decide) (Nat.le_of_ble_eq_true rfl) ?_
  have n10 := hw.1.1
  show zV G (eX7_write (g_rmv 2)) (0, 0) 0 [(0, .ref 76), (1, .int x), (2, .int y), (3, .int v)] [] (mm I J t) _
  refine zV_iload_n dX7_write_0 rfl 1 rfl rfl ?_
  refine zV_callS (E' := eX7_isSheet (g_rmv 1)) (av := [.int x]) (st := []) dX7_write_1 rfl (k_RX7_305 _) rfl ⟨by decide, by decide⟩ ⟨by decide, by decide⟩ (Or.inl rfl) rfl (Nat.le_of_ble_eq_true rfl) (m_isSheet (x := x)) (fun r1 M1 z => ?_)
  obtain ⟨rfl, rfl⟩ := z
  show zV G (eX7_write (g_rmv 2)) (0, 0) 4 [(0, .ref 76), (1, .int x), (2, .int y), (3, .int v)] [.int (b2 (inR x 3))] (mm I J t) _
  refine zB_if_ne (tgt := 14) dX7_write_4 rfl rfl  (fun h4 => ?_) (fun h4 => ?_)
  · obtain ⟨s, hs3, rfl⟩ := (inR_iff (by decide)).mp h4
    have hs : s < 4 := by omega
    have bs := (hw.2.2.2.2.2.1 s hs).1
    have zs40 := (hw.2.2.2.2.2.1 s hs).2
    refine zV_aload_n dX7_write_14 rfl 0 rfl rfl ?_
    refine zV_getr (q' := 86) 21 dX7_write_15 rfl fl_RX7_55 rfl (by decide) rfl rfl ?_
    refine zV_iload_n dX7_write_18 rfl 1 rfl rfl ?_
    refine zV_iald (x := (nI (S.2.2.2.2.2.1 s))) s dX7_write_19 rfl rfl rfl (by omega) (by decide) ((hM.2.2.2.2.2.2 s hs).1) ?_
    refine zN_if_ne (tgt := 31) dX7_write_20 rfl rfl (by omega) (fun h20 => ?_) (fun h20 => ?_)
    · refine zV_iload_n dX7_write_31 rfl 2 rfl rfl ?_
      refine zV_iconst (v := (nI 0)) dX7_write_32 rfl rfl ?_
      refine zV_aload_n dX7_write_33 rfl 0 rfl rfl ?_
      refine zV_getr (q' := 87) 22 dX7_write_34 rfl fl_RX7_58 rfl (by decide) rfl rfl ?_
      refine zV_iload_n dX7_write_37 rfl 1 rfl rfl ?_
      refine zV_iald (x := (nI (S.2.2.2.2.2.2.1 s))) s dX7_write_38 rfl rfl rfl (by omega) (by decide) ((hM.2.2.2.2.2.2 s hs).2.1) ?_
      refine zV_iconst (v := (nI 1)) dX7_write_39 rfl rfl ?_
      refine zA_isub (z := ((nI (S.2.2.2.2.2.2.1 s)) - (nI 1))) dX7_write_40 rfl  (rfl) ?_
      refine zV_callS (E' := eX7_within (g_rmv 0)) (av := [.int y, .int (nI 0), .int ((nI (S.2.2.2.2.2.2.1 s)) - (nI 1))]) (st := []) dX7_write_41 rfl (k_RX7_72 _) rfl ⟨by decide, by decide⟩ ⟨by decide, by decide⟩ (Or.inl rfl) rfl (Nat.le_of_ble_eq_true rfl) (m_within (x := y) (y := (nI 0)) (z := ((nI (S.2.2.2.2.2.2.1 s)) - (nI 1)))) (fun r41 M41 z => ?_)
      obtain ⟨rfl, rfl⟩ := z
      show zV G (eX7_write (g_rmv 2)) (0, 0) 44 [(0, .ref 76), (1, .int (nI s)), (2, .int y), (3, .int v)] [.int (b2 ((nI 0) ≤ y ∧ y ≤ ((nI (S.2.2.2.2.2.2.1 s)) - (nI 1))))] (mm I J t) _
      refine zB_if_ne (tgt := 54) dX7_write_44 rfl rfl  (fun h44 => ?_) (fun h44 => ?_)
      · have hh := (z_hasN (by omega)).mp h44
        obtain ⟨i, hi, rfl⟩ := z_has2 (by omega) hh
        refine zV_aload_n dX7_write_54 rfl 0 rfl rfl ?_
        refine zV_getr (q' := 88) 23 dX7_write_55 rfl fl_RX7_61 rfl (by decide) rfl rfl ?_
        refine zV_bipush (v := (nI 40)) dX7_write_58 rfl rfl ?_
        refine zV_iload_n dX7_write_60 rfl 1 rfl rfl ?_
        refine zA_imul (z := (nI (40 * s))) dX7_write_61 rfl  (pk_mul _ _) ?_
        refine zV_iload_n dX7_write_62 rfl 2 rfl rfl ?_
        refine zA_iadd (z := (nI ((40 * s) + i))) dX7_write_63 rfl  (nI_add _ _) ?_
        refine zV_iload_n dX7_write_64 rfl 3 rfl rfl ?_
        refine zV_aload_n dX7_write_65 rfl 0 rfl rfl ?_
        refine zV_getr (q' := 86) 21 dX7_write_66 rfl fl_RX7_55 rfl (by decide) rfl rfl ?_
        refine zV_iload_n dX7_write_69 rfl 1 rfl rfl ?_
        refine zV_iald (x := (nI (S.2.2.2.2.2.1 s))) s dX7_write_70 rfl rfl rfl (by omega) (by decide) ((hM.2.2.2.2.2.2 s hs).1) ?_
        refine zV_callS (E' := eX7_cutTo (g_rmv 0)) (av := [.int v, .int (nI (S.2.2.2.2.2.1 s))]) (st := [.int (nI ((40 * s) + i)), .ref 88]) dX7_write_71 rfl (k_RX7_309 _) rfl ⟨by decide, by decide⟩ ⟨by decide, by decide⟩ (Or.inl rfl) rfl (Nat.le_of_ble_eq_true rfl) (m_cutTo (b := (S.2.2.2.2.2.1 s)) (v := v) (by omega)) (fun r71 M71 z => ?_)
        obtain ⟨rfl, rfl⟩ := z
        show zV G (eX7_write (g_rmv 2)) (0, 0) 74 [(0, .ref 76), (1, .int (nI s)), (2, .int (nI i)), (3, .int v)] [.int (cutTo v (S.2.2.2.2.2.1 s)), .int (nI ((40 * s) + i)), .ref 88] (mm I J t) _
        refine zV_iastore ((40 * s) + i) dX7_write_74 rfl rfl rfl (by omega) (by decide)  ?_
        refine zV_iconst (v := (nI 1)) dX7_write_75 rfl rfl ?_
        exact zV_ireturn dX7_write_76 rfl rfl (⟨_, _, _, by rw [show op_write S (nI s) (nI i) v = (nI 1, st_s S S.2.2.2.2.2.1 S.2.2.2.2.2.2.1 (upN S.2.2.2.2.2.2.2 s (upN (S.2.2.2.2.2.2.2 s) i (cutTo v (S.2.2.2.2.2.1 s))))) by unfold op_write; rw [if_pos h4, tn_nI (show s < 2 ^ 31 by omega), if_neg h20, if_pos hh, tn_nI (show i < 2 ^ 31 by omega)]], rfl, by rw [show op_write S (nI s) (nI i) v = (nI 1, st_s S S.2.2.2.2.2.1 S.2.2.2.2.2.2.1 (upN S.2.2.2.2.2.2.2 s (upN (S.2.2.2.2.2.2.2 s) i (cutTo v (S.2.2.2.2.2.1 s))))) by unfold op_write; rw [if_pos h4, tn_nI (show s < 2 ^ 31 by omega), if_neg h20, if_pos hh, tn_nI (show i < 2 ^ 31 by omega)]]; have h9 := hM.sheet (I' := up2 I 88 (40 * s + i) (cutTo v (S.2.2.2.2.2.1 s))) (b := S.2.2.2.2.2.1 s) (z := S.2.2.2.2.2.2.1 s) (n := upN (S.2.2.2.2.2.2.2 s) i (cutTo v (S.2.2.2.2.2.1 s))) hs (fun j => by rw [up2_ni (by decide)]; by_cases e : j = s; (· rw [if_pos e, e]; exact (hM.2.2.2.2.2.2 s hs).1); (· rw [if_neg e])) (fun j => by rw [up2_ni (by decide)]; by_cases e : j = s; (· rw [if_pos e, e]; exact (hM.2.2.2.2.2.2 s hs).2.1); (· rw [if_neg e])) (fun j hj => by unfold upN; by_cases e : j = i; (· rw [if_pos e, e, up2_same]); (· rw [if_neg e, up2_nk (by omega)]; exact (hM.2.2.2.2.2.2 s hs).2.2 j hj)) (fun a j _ ha hj => up2_nk (by omega)) (fun i _ _ h88 _ => by funext k; exact up2_ni h88); rwa [upN_self, upN_self] at h9, fun i hi => by funext k; exact up2_ni (by omega)⟩)
      · refine zV_aload_n dX7_write_47 rfl 0 rfl rfl ?_
        refine zV_ldc (v := (-1000001)) dX7_write_48 rfl tw970 ?_
        refine zV_callV (E' := eX7_finding (g_rmv 0)) (av := [.int (-1000001)]) (st := []) (b := 76) dX7_write_50 rfl (k_RX7_87 _) rfl ⟨by decide, by decide⟩ ⟨by decide, by decide⟩ (Or.inl rfl) rfl (Nat.le_of_ble_eq_true rfl) rfl rfl rfl (m_finding (w := 0) (by decide) (by decide)) (fun r50 M50 z => ?_)
        obtain ⟨rfl, rfl⟩ := z
        show zV G (eX7_write (g_rmv 2)) (0, 0) 53 [(0, .ref 76), (1, .int (nI s)), (2, .int y), (3, .int v)] [.int (fdg 0)] (mm (mTell I 0) J t) _
        exact zV_ireturn dX7_write_53 rfl rfl (PM.tell hM (by decide) (by unfold op_write; rw [if_pos h4, tn_nI (show s < 2 ^ 31 by omega), if_neg h20, if_neg (fun z => h44 ((z_hasN (by omega)).mpr z))]) scM.rf)
    · refine zV_aload_n dX7_write_23 rfl 0 rfl rfl ?_
      refine zV_ldcw (v := (-1000006)) dX7_write_24 rfl tw1329 ?_
      refine zV_callV (E' := eX7_finding (g_rmv 0)) (av := [.int (-1000006)]) (st := []) (b := 76) dX7_write_27 rfl (k_RX7_87 _) rfl ⟨by decide, by decide⟩ ⟨by decide, by decide⟩ (Or.inl rfl) rfl (Nat.le_of_ble_eq_true rfl) rfl rfl rfl (m_finding (w := 5) (by decide) (by decide)) (fun r27 M27 z => ?_)
      obtain ⟨rfl, rfl⟩ := z
      show zV G (eX7_write (g_rmv 2)) (0, 0) 30 [(0, .ref 76), (1, .int (nI s)), (2, .int y), (3, .int v)] [.int (fdg 5)] (mm (mTell I 5) J t) _
      exact zV_ireturn dX7_write_30 rfl rfl (PM.tell hM (by decide) (by unfold op_write; rw [if_pos h4, tn_nI (show s < 2 ^ 31 by omega), if_pos h20]) scM.rf)
  · refine zV_aload_n dX7_write_7 rfl 0 rfl rfl ?_
    refine zV_ldc (v := (-1000001)) dX7_write_8 rfl tw970 ?_
    refine zV_callV (E' := eX7_finding (g_rmv 0)) (av := [.int (-1000001)]) (st := []) (b := 76) dX7_write_10 rfl (k_RX7_87 _) rfl ⟨by decide, by decide⟩ ⟨by decide, by decide⟩ (Or.inl rfl) rfl (Nat.le_of_ble_eq_true rfl) rfl rfl rfl (m_finding (w := 0) (by decide) (by decide)) (fun r10 M10 z => ?_)
    obtain ⟨rfl, rfl⟩ := z
    show zV G (eX7_write (g_rmv 2)) (0, 0) 13 [(0, .ref 76), (1, .int x), (2, .int y), (3, .int v)] [.int (fdg 0)] (mm (mTell I 0) J t) _
    exact zV_ireturn dX7_write_13 rfl rfl (PM.tell hM (by decide) (by unfold op_write; rw [if_neg h4]) scM.rf)

theorem absL.lies {I : Nat → Nat → Int32} {b c : Nat} {σ : aL} {ns : Nat → Int32} (h : absL I b (ld_lies σ ns c)) (hc : c < σ.1) (hn : inR (ns c) 1) : absL (up2 I (b + 3 + c) 4 (ns c)) b (ld_lies σ ns (c + 1)) := by
  rw [ld_lies_s]
  refine h.cset (fun f hf => ?_) (fun i hi => by funext k; exact up2_ni hi)
  have h9 := h.2.1 c hc f hf
  rw [ld_lies_at] at h9
  obtain ⟨a, ha, e⟩ := (inR_iff (by decide)).mp hn
  by_cases e4 : f = 4
  · subst e4
    rw [up2_same, e, tn_nI (by omega)]
    simp [k_set]
  · rw [up2_nk e4, h9]
    simp [k_set, e4]
theorem absR.lies {I : Nat → Nat → Int32} {c : Nat} {σ : aL} {ns : Nat → Int32} (h : absR I 77 (ld_lies σ ns c)) (hn : inR (ns c) 1) : absR (up2 I 77 (13 + 6 * c + 4) (ns c)) 77 (ld_lies σ ns (c + 1)) := by
  rw [ld_lies_s]
  obtain ⟨a, ha, e⟩ := (inR_iff (by decide)).mp hn
  have h9 := h.set (c := c) (f := 4) (v := a) (by decide)
  rw [ld_lies_at] at h9
  rw [e, tn_nI (by omega)]
  exact h9
theorem wf_lies {B m : Nat} {σ : aL} {ns : Nat → Int32} (h : wfL B σ) (hn : ∀ i, i < m → inR (ns i) 1) : wfL B (ld_lies σ ns m) := by
  refine ⟨h.1, fun c hc => ?_, h.2.2.1, h.2.2.2⟩
  have h9 := h.2.1 c hc
  show wfK B (if c < m then _ else _)
  split
  · rename_i hm
    obtain ⟨a, ha, e⟩ := (inR_iff (by decide)).mp (hn c hm)
    refine ⟨h9.1, h9.2.1, h9.2.2.1, h9.2.2.2.1, ?_, h9.2.2.2.2.2.1, h9.2.2.2.2.2.2⟩
    show tn (ns c) < 2
    rw [e, tn_nI (by omega)]
    omega
  · exact h9
theorem lgo_is {ns : Nat → Int32} {m c : Nat} (hc : c < m) (h : ∀ i, i < c → inR (ns i) 1) (hy : ¬ inR (ns c) 1) : op_load_go ns m = c := fst_is hc (fun i hi => decide_eq_false (fun z => z (h i hi))) (decide_eq_true hy)
theorem lgo_end {ns : Nat → Int32} {m : Nat} (h : ∀ i, i < m → inR (ns i) 1) : op_load_go ns m = m := by
  have h1 := fst_no (p := fun j => decide (¬ inR (ns j) 1)) (n := m) (fun i hi => decide_eq_false (fun z => z (h i hi)))
  have h2 := fa_first_le (fun j => decide (¬ inR (ns j) 1)) m
  unfold op_load_go
  omega
set_option maxRecDepth 100000 in
theorem p_load {G : mG} {I : Nat → Nat → Int32} {J : Nat → Nat → Int64} {t : Nat} {B : Nat} {S : aS} (hC : InvC I S) (hw : wfS B S) {x : Int32} : zC G yX6_load (eX6_load (g_rmv 3)) [.ref 0, .int x] (mm I J t) (fun r M => PC I (op_load S x) r M) := by
  refine zC_of (by decide +kernel) rfl (by decide) (Nat.le_of_ble_eq_true rfl) ?_
  have n10 := hw.1.1
  show zV G (eX6_load (g_rmv 3)) (0, 0) 0 [(0, .ref 0), (1, .int x)] [] (mm I J t) _
  by_cases h0 : inR x 3
  · obtain ⟨s, hs3, rfl⟩ := (inR_iff (by decide)).mp h0
    have hs : s < 4 := by omega
    have bs := (hw.2.2.2.2.2.1 s hs).1
    have zs40 := (hw.2.2.2.2.2.1 s hs).2
    by_cases h5 : S.2.2.2.2.2.1 s = 0
    · show zV G (eX6_load (g_rmv 3)) (0, 0) 0 [(0, .ref 0), (1, .int (nI s))] [] (mm I J t) _
      refine zV_aload_n dX6_load_0 rfl 0 rfl rfl ?_
      refine zV_iload_n dX6_load_1 rfl 1 rfl rfl ?_
      refine zV_callV (E' := eX6_seekSheet (g_rmv 2)) (av := [.int (nI s)]) (st := []) (b := 0) dX6_load_2 rfl (k_RX6_266 _) rfl ⟨by decide, by decide⟩ ⟨by decide, by decide⟩ (Or.inl rfl) rfl (Nat.le_of_ble_eq_true rfl) rfl rfl rfl (c_seek5 hC hw hs h5) (fun r2 M2 z => ?_)
      obtain ⟨rfl, rfl⟩ := z
      show zV G (eX6_load (g_rmv 3)) (0, 0) 5 [(0, .ref 0), (1, .int (nI s))] [.int (-1000006)] (mm I J t) _
      refine zV_istore_n (lv' := [(0, .ref 0), (1, .int (nI s)), (2, .int (-1000006))]) dX6_load_5 rfl rfl (by decide) rfl ?_
      refine zV_iload_n dX6_load_6 rfl 2 rfl rfl ?_
      refine zV_if_eq (tgt := 16) dX6_load_7 rfl rfl  (fun z => absurd z (by decide)) (fun _ => ?_)
      refine zV_aload_n dX6_load_10 rfl 0 rfl rfl ?_
      refine zV_iload_n dX6_load_11 rfl 2 rfl rfl ?_
      refine zV_callV (E' := eX6_tell (g_rmv 1)) (av := [.int (-1000006)]) (st := []) (b := 0) dX6_load_12 rfl (k_RX6_70 _) rfl ⟨by decide, by decide⟩ ⟨by decide, by decide⟩ (Or.inl rfl) rfl (Nat.le_of_ble_eq_true rfl) rfl rfl rfl (c_tell (w := 5) (by decide) (by decide)) (fun r12 M12 z => ?_)
      obtain ⟨rfl, rfl⟩ := z
      show zV G (eX6_load (g_rmv 3)) (0, 0) 15 [(0, .ref 0), (1, .int (nI s)), (2, .int (-1000006))] [.int (fdg 5)] (mm (up2 I 67 5 (I 67 5 + nI 1)) J t) _
      exact zV_ireturn dX6_load_15 rfl rfl (PC.tell hC hw (by unfold op_load; rw [if_pos h0, tn_nI (show s < 2 ^ 31 by omega), if_pos h5]) (fun _ _ => rfl))
    · show zV G (eX6_load (g_rmv 3)) (0, 0) 0 [(0, .ref 0), (1, .int (nI s))] [] (mm I J t) _
      refine zV_aload_n dX6_load_0 rfl 0 rfl rfl ?_
      refine zV_iload_n dX6_load_1 rfl 1 rfl rfl ?_
      refine zV_callV (E' := eX6_seekSheet (g_rmv 2)) (av := [.int (nI s)]) (st := []) (b := 0) dX6_load_2 rfl (k_RX6_266 _) rfl ⟨by decide, by decide⟩ ⟨by decide, by decide⟩ (Or.inl rfl) rfl (Nat.le_of_ble_eq_true rfl) rfl rfl rfl (c_seekF hC hw hs h5) (fun r2 M2 z => ?_)
      obtain ⟨rfl, rfl⟩ := z
      show zV G (eX6_load (g_rmv 3)) (0, 0) 5 [(0, .ref 0), (1, .int (nI s))] [.int (nI 0)] (mm I J t) _
      refine zV_istore_n (lv' := [(0, .ref 0), (1, .int (nI s)), (2, .int (nI 0))]) dX6_load_5 rfl rfl (by decide) rfl ?_
      refine zV_iload_n dX6_load_6 rfl 2 rfl rfl ?_
      refine zN_if_eq (tgt := 16) dX6_load_7 rfl rfl (by decide) (fun _ => ?_) (fun z => absurd z (by decide))
      refine zV_aload_n dX6_load_16 rfl 0 rfl rfl ?_
      refine zV_getr (q' := 43) 7 dX6_load_17 rfl fl_RX6_43 rfl (by decide) rfl rfl ?_
      refine zV_iload_n dX6_load_20 rfl 1 rfl rfl ?_
      refine zV_aaload (q' := (68 + 2 * s)) s dX6_load_21 rfl rfl rfl (by decide) rfl (by omega) (by decide) (R_sheet (by omega)) ?_
      refine zV_astore_n (lv' := [(0, .ref 0), (1, .int (nI s)), (2, .int (nI 0)), (3, .ref (68 + 2 * s))]) dX6_load_22 rfl rfl (by decide) rfl ?_
      refine zV_aload_n dX6_load_23 rfl 3 rfl rfl ?_
      refine zV_getI (x := (nI (S.2.2.2.2.2.2.1 s))) 2 dX6_load_24 rfl fl_RX6_263 (sh_sheet (by omega)) (by decide) rfl ((hC.2.2.2.2.2.2 s hs).2.1) ?_
      refine zV_aload_n dX6_load_27 rfl 0 rfl rfl ?_
      refine zV_getr (q' := 1) 0 dX6_load_28 rfl fl_RX6_12 rfl (by decide) rfl rfl ?_
      refine zV_getI (x := (nI S.1.1)) 2 dX6_load_31 rfl fl_RX6_74 (sh_land (Or.inl rfl)) (by decide) rfl hC.1.1 ?_
      refine zV_callS (E' := eJ9_min_7cf53 (g_rmv 0)) (av := [.int (nI (S.2.2.2.2.2.2.1 s)), .int (nI S.1.1)]) (st := []) dX6_load_34 rfl (k_RX6_291 _) rfl ⟨by decide, by decide⟩ ⟨by decide, by decide⟩ (Or.inl rfl) rfl (Nat.le_of_ble_eq_true rfl) (c_minn (a := (S.2.2.2.2.2.2.1 s)) (b := S.1.1) (by omega) (by omega)) (fun r34 M34 z => ?_)
      obtain ⟨rfl, rfl⟩ := z
      show zV G (eX6_load (g_rmv 3)) (0, 0) 37 [(0, .ref 0), (1, .int (nI s)), (2, .int (nI 0)), (3, .ref (68 + 2 * s))] [.int (nI (min (S.2.2.2.2.2.2.1 s) S.1.1))] (mm I J t) _
      refine zV_istore (lv' := [(0, .ref 0), (1, .int (nI s)), (2, .int (nI 0)), (3, .ref (68 + 2 * s)), (4, .int (nI (min (S.2.2.2.2.2.2.1 s) S.1.1)))]) dX6_load_37 rfl (by decide) rfl ?_
      refine zV_iconst (v := (nI 0)) dX6_load_39 rfl rfl ?_
      refine zV_istore (lv' := [(0, .ref 0), (1, .int (nI s)), (2, .int (nI 0)), (3, .ref (68 + 2 * s)), (4, .int (nI (min (S.2.2.2.2.2.2.1 s) S.1.1))), (5, .int (nI 0))]) dX6_load_40 rfl (by decide) rfl ?_
      refine z_for (fun c => ∀ (I1 : Nat → Nat → Int32), (absL I1 1 (ld_lies S.1 (S.2.2.2.2.2.2.2 s) c) ∧ frL 1 I I1 ∧ ∀ i, i < c → inR ((S.2.2.2.2.2.2.2 s) i) 1) → zV G (eX6_load (g_rmv 3)) (0, 0) 42 [(0, .ref 0), (1, .int (nI s)), (2, .int (nI 0)), (3, .ref (68 + 2 * s)), (4, .int (nI (min (S.2.2.2.2.2.2.1 s) S.1.1))), (5, .int (nI c))] [] (mm I1 J t) _) (min (S.2.2.2.2.2.2.1 s) S.1.1) ?_ ?_ 0 (Nat.zero_le _) I ⟨by rw [ld_lies_0]; exact hC.1, frL.rf, fun i h => absurd h (Nat.not_lt_zero _)⟩
      · intro I1 h1
        refine zV_iload dX6_load_42 rfl 5 rfl ?_
        refine zV_iload dX6_load_44 rfl 4 rfl ?_
        refine zN_icmp_ge (tgt := 89) dX6_load_46 rfl rfl (by omega) (by omega) (fun _ => ?_) (fun z => absurd z (by omega))
        refine zV_iload dX6_load_89 rfl 5 rfl ?_
        exact zV_ireturn dX6_load_91 rfl rfl (PC.land hC hw (by unfold op_load; rw [if_pos h0, tn_nI (show s < 2 ^ 31 by omega), if_neg h5, lgo_end h1.2.2]) h1.1 h1.2.1.one)
      · intro c hc ih
        intro I1 h1
        refine zV_iload dX6_load_42 rfl 5 rfl ?_
        refine zV_iload dX6_load_44 rfl 4 rfl ?_
        refine zN_icmp_ge (tgt := 89) dX6_load_46 rfl rfl (by omega) (by omega) (fun z => absurd z (by omega)) (fun _ => ?_)
        refine zV_aload_n dX6_load_49 rfl 3 rfl rfl ?_
        refine zV_getrX (q' := (69 + 2 * s)) 0 dX6_load_50 rfl fl_RX6_282 (sh_sheet hs) (by decide) rfl (R_nums hs) ?_
        refine zV_iload dX6_load_53 rfl 5 rfl ?_
        refine zV_iald (x := (S.2.2.2.2.2.2.2 s c)) c dX6_load_55 rfl (sh_nums hs) rfl (by omega) (by decide) (by rw [h1.2.1 (69 + 2 * s) (by omega)]; exact (hC.2.2.2.2.2.2 s hs).2.2 c (by omega)) ?_
        refine zV_iconst (v := (nI 1)) dX6_load_56 rfl rfl ?_
        refine zV_callS (E' := eX6_isWithin (g_rmv 0)) (av := [.int (S.2.2.2.2.2.2.2 s c), .int (nI 1)]) (st := []) dX6_load_57 rfl (k_RX6_65 _) rfl ⟨by decide, by decide⟩ ⟨by decide, by decide⟩ (Or.inl rfl) rfl (Nat.le_of_ble_eq_true rfl) (c_isWithin (x := (S.2.2.2.2.2.2.2 s c)) (y := (nI 1))) (fun r57 M57 z => ?_)
        obtain ⟨rfl, rfl⟩ := z
        show zV G (eX6_load (g_rmv 3)) (0, 0) 60 [(0, .ref 0), (1, .int (nI s)), (2, .int (nI 0)), (3, .ref (68 + 2 * s)), (4, .int (nI (min (S.2.2.2.2.2.2.1 s) S.1.1))), (5, .int (nI c))] [.int (b2 (0 ≤ (S.2.2.2.2.2.2.2 s c) ∧ (S.2.2.2.2.2.2.2 s c) ≤ (nI 1)))] (mm I1 J t) _
        refine zB_if_eq (tgt := 89) dX6_load_60 rfl rfl  (fun h60 => ?_) (fun h60 => ?_)
        · refine zV_iload dX6_load_89 rfl 5 rfl ?_
          exact zV_ireturn dX6_load_91 rfl rfl (PC.land hC hw (by unfold op_load; rw [if_pos h0, tn_nI (show s < 2 ^ 31 by omega), if_neg h5, lgo_is hc h1.2.2 h60]) h1.1 h1.2.1.one)
        · refine zV_aload_n dX6_load_63 rfl 0 rfl rfl ?_
          refine zV_getr (q' := 1) 0 dX6_load_64 rfl fl_RX6_12 rfl (by decide) rfl rfl ?_
          refine zV_getrX (q' := (1 + 1)) 0 dX6_load_67 rfl fl_RX6_86 (sh_land (Or.inl rfl)) (by decide) rfl (R_coins (Or.inl rfl)) ?_
          refine zV_iload dX6_load_70 rfl 5 rfl ?_
          refine zV_aaload (q' := (1 + 3 + c)) c dX6_load_72 rfl (sh_coins (Or.inl rfl)) rfl (by decide) rfl (by omega) (by decide) (R_coin (Or.inl rfl) (by omega)) ?_
          refine zV_aload_n dX6_load_73 rfl 3 rfl rfl ?_
          refine zV_getrX (q' := (69 + 2 * s)) 0 dX6_load_74 rfl fl_RX6_282 (sh_sheet hs) (by decide) rfl (R_nums hs) ?_
          refine zV_iload dX6_load_77 rfl 5 rfl ?_
          refine zV_iald (x := (S.2.2.2.2.2.2.2 s c)) c dX6_load_79 rfl (sh_nums hs) rfl (by omega) (by decide) (by rw [h1.2.1 (69 + 2 * s) (by omega)]; exact (hC.2.2.2.2.2.2 s hs).2.2 c (by omega)) ?_
          refine zV_puti 4 dX6_load_80 rfl fl_RX6_104 (sh_coin (Or.inl rfl) (by omega)) (by decide) rfl rfl rfl ?_
          refine zV_iinc (y := (nI (c + 1))) (lv' := [(0, .ref 0), (1, .int (nI s)), (2, .int (nI 0)), (3, .ref (68 + 2 * s)), (4, .int (nI (min (S.2.2.2.2.2.2.1 s) S.1.1))), (5, .int (nI (c + 1)))]) dX6_load_83 rfl 5 rfl (nI_1 _) (by decide) rfl ?_
          refine zV_goto (tgt := 42) dX6_load_86 rfl ?_
          exact ih _ ⟨h1.1.lies (by omega) h60, h1.2.1.tr (frL.coin (c := c) (by omega) (fun i hi => by funext k; exact up2_ni hi)), fun i hi => by
              by_cases e : i = c
              · rw [e]; exact h60
              · exact h1.2.2 i (by omega)⟩
  · show zV G (eX6_load (g_rmv 3)) (0, 0) 0 [(0, .ref 0), (1, .int x)] [] (mm I J t) _
    refine zV_aload_n dX6_load_0 rfl 0 rfl rfl ?_
    refine zV_iload_n dX6_load_1 rfl 1 rfl rfl ?_
    refine zV_callV (E' := eX6_seekSheet (g_rmv 2)) (av := [.int x]) (st := []) (b := 0) dX6_load_2 rfl (k_RX6_266 _) rfl ⟨by decide, by decide⟩ ⟨by decide, by decide⟩ (Or.inl rfl) rfl (Nat.le_of_ble_eq_true rfl) rfl rfl rfl (c_seek0 h0) (fun r2 M2 z => ?_)
    obtain ⟨rfl, rfl⟩ := z
    show zV G (eX6_load (g_rmv 3)) (0, 0) 5 [(0, .ref 0), (1, .int x)] [.int (-1000001)] (mm I J t) _
    refine zV_istore_n (lv' := [(0, .ref 0), (1, .int x), (2, .int (-1000001))]) dX6_load_5 rfl rfl (by decide) rfl ?_
    refine zV_iload_n dX6_load_6 rfl 2 rfl rfl ?_
    refine zV_if_eq (tgt := 16) dX6_load_7 rfl rfl  (fun z => absurd z (by decide)) (fun _ => ?_)
    refine zV_aload_n dX6_load_10 rfl 0 rfl rfl ?_
    refine zV_iload_n dX6_load_11 rfl 2 rfl rfl ?_
    refine zV_callV (E' := eX6_tell (g_rmv 1)) (av := [.int (-1000001)]) (st := []) (b := 0) dX6_load_12 rfl (k_RX6_70 _) rfl ⟨by decide, by decide⟩ ⟨by decide, by decide⟩ (Or.inl rfl) rfl (Nat.le_of_ble_eq_true rfl) rfl rfl rfl (c_tell (w := 0) (by decide) (by decide)) (fun r12 M12 z => ?_)
    obtain ⟨rfl, rfl⟩ := z
    show zV G (eX6_load (g_rmv 3)) (0, 0) 15 [(0, .ref 0), (1, .int x), (2, .int (-1000001))] [.int (fdg 0)] (mm (up2 I 67 0 (I 67 0 + nI 1)) J t) _
    exact zV_ireturn dX6_load_15 rfl rfl (PC.tell hC hw (by unfold op_load; rw [if_neg h0]) (fun _ _ => rfl))

set_option maxRecDepth 100000 in
theorem q_load {G : mG} {I : Nat → Nat → Int32} {J : Nat → Nat → Int64} {t : Nat} {B : Nat} {S : aS} (hM : InvM I S) (hw : wfS B S) {x : Int32} : zC G yX7_load (eX7_load (g_rmv 2)) [.ref 76, .int x] (mm I J t) (fun r M => PM I (op_load S x) r M) := by
  refine zC_of (by decide +kernel) rfl (by decide) (Nat.le_of_ble_eq_true rfl) ?_
  have n10 := hw.1.1
  show zV G (eX7_load (g_rmv 2)) (0, 0) 0 [(0, .ref 76), (1, .int x)] [] (mm I J t) _
  refine zV_iload_n dX7_load_0 rfl 1 rfl rfl ?_
  refine zV_callS (E' := eX7_isSheet (g_rmv 1)) (av := [.int x]) (st := []) dX7_load_1 rfl (k_RX7_305 _) rfl ⟨by decide, by decide⟩ ⟨by decide, by decide⟩ (Or.inl rfl) rfl (Nat.le_of_ble_eq_true rfl) (m_isSheet (x := x)) (fun r1 M1 z => ?_)
  obtain ⟨rfl, rfl⟩ := z
  show zV G (eX7_load (g_rmv 2)) (0, 0) 4 [(0, .ref 76), (1, .int x)] [.int (b2 (inR x 3))] (mm I J t) _
  refine zB_if_ne (tgt := 14) dX7_load_4 rfl rfl  (fun h4 => ?_) (fun h4 => ?_)
  · obtain ⟨s, hs3, rfl⟩ := (inR_iff (by decide)).mp h4
    have hs : s < 4 := by omega
    have bs := (hw.2.2.2.2.2.1 s hs).1
    have zs40 := (hw.2.2.2.2.2.1 s hs).2
    refine zV_aload_n dX7_load_14 rfl 0 rfl rfl ?_
    refine zV_getr (q' := 86) 21 dX7_load_15 rfl fl_RX7_55 rfl (by decide) rfl rfl ?_
    refine zV_iload_n dX7_load_18 rfl 1 rfl rfl ?_
    refine zV_iald (x := (nI (S.2.2.2.2.2.1 s))) s dX7_load_19 rfl rfl rfl (by omega) (by decide) ((hM.2.2.2.2.2.2 s hs).1) ?_
    refine zN_if_ne (tgt := 31) dX7_load_20 rfl rfl (by omega) (fun h20 => ?_) (fun h20 => ?_)
    · refine zV_iconst (v := (nI 0)) dX7_load_31 rfl rfl ?_
      refine zV_istore_n (lv' := [(0, .ref 76), (1, .int (nI s)), (2, .int (nI 0))]) dX7_load_32 rfl rfl (by decide) rfl ?_
      refine z_for (fun c => ∀ (I1 : Nat → Nat → Int32), (absR I1 77 (ld_lies S.1 (S.2.2.2.2.2.2.2 s) c) ∧ frM I I1 ∧ ∀ i, i < c → inR ((S.2.2.2.2.2.2.2 s) i) 1) → zV G (eX7_load (g_rmv 2)) (0, 0) 33 [(0, .ref 76), (1, .int (nI s)), (2, .int (nI c))] [] (mm I1 J t) _) (min (S.2.2.2.2.2.2.1 s) S.1.1) ?_ ?_ 0 (Nat.zero_le _) I ⟨by rw [ld_lies_0]; exact hM.1, frM.rf, fun i h => absurd h (Nat.not_lt_zero _)⟩
      · intro I1 h1
        refine zV_iload_n dX7_load_33 rfl 2 rfl rfl ?_
        refine zV_aload_n dX7_load_34 rfl 0 rfl rfl ?_
        refine zV_getr (q' := 87) 22 dX7_load_35 rfl fl_RX7_58 rfl (by decide) rfl rfl ?_
        refine zV_iload_n dX7_load_38 rfl 1 rfl rfl ?_
        refine zV_iald (x := (nI (S.2.2.2.2.2.2.1 s))) s dX7_load_39 rfl rfl rfl (by omega) (by decide) (by rw [h1.2.1 87 (by decide)]; exact (hM.2.2.2.2.2.2 s hs).2.1) ?_
        refine zN_icmp_ge (tgt := 97) dX7_load_40 rfl rfl (by omega) (by omega) (fun h40 => ?_) (fun h40 => ?_)
        · refine zV_iload_n dX7_load_97 rfl 2 rfl rfl ?_
          exact zV_ireturn dX7_load_98 rfl rfl (PM.land hM (by unfold op_load; rw [if_pos h4, tn_nI (show s < 2 ^ 31 by omega), if_neg h20, lgo_end h1.2.2]) scM.rf h1.1 h1.2.1)
        · refine zV_aload_n dX7_load_43 rfl 0 rfl rfl ?_
          refine zV_iload_n dX7_load_44 rfl 2 rfl rfl ?_
          refine zV_callV (E' := eX7_isCoin (g_rmv 1)) (av := [.int (nI (min (S.2.2.2.2.2.2.1 s) S.1.1))]) (st := []) (b := 76) dX7_load_45 rfl (k_RX7_124 _) rfl ⟨by decide, by decide⟩ ⟨by decide, by decide⟩ (Or.inl rfl) rfl (Nat.le_of_ble_eq_true rfl) rfl rfl rfl (m_isCoin (x := (nI (min (S.2.2.2.2.2.2.1 s) S.1.1))) h1.1 (wf_lies hw.1 h1.2.2)) (fun r45 M45 z => ?_)
          obtain ⟨rfl, rfl⟩ := z
          show zV G (eX7_load (g_rmv 2)) (0, 0) 48 [(0, .ref 76), (1, .int (nI s)), (2, .int (nI (min (S.2.2.2.2.2.2.1 s) S.1.1)))] [.int (b2 (hasC S.1.1 (nI (min (S.2.2.2.2.2.2.1 s) S.1.1))))] (mm I1 J t) _
          refine zB_if_eq (tgt := 97) dX7_load_48 rfl rfl  (fun _ => ?_) (fun z => absurd z (fun z => absurd ((nI_ltI (by omega) (by omega)).mp z.2) (by omega)))
          refine zV_iload_n dX7_load_97 rfl 2 rfl rfl ?_
          exact zV_ireturn dX7_load_98 rfl rfl (PM.land hM (by unfold op_load; rw [if_pos h4, tn_nI (show s < 2 ^ 31 by omega), if_neg h20, lgo_end h1.2.2]) scM.rf h1.1 h1.2.1)
      · intro c hc ih
        intro I1 h1
        refine zV_iload_n dX7_load_33 rfl 2 rfl rfl ?_
        refine zV_aload_n dX7_load_34 rfl 0 rfl rfl ?_
        refine zV_getr (q' := 87) 22 dX7_load_35 rfl fl_RX7_58 rfl (by decide) rfl rfl ?_
        refine zV_iload_n dX7_load_38 rfl 1 rfl rfl ?_
        refine zV_iald (x := (nI (S.2.2.2.2.2.2.1 s))) s dX7_load_39 rfl rfl rfl (by omega) (by decide) (by rw [h1.2.1 87 (by decide)]; exact (hM.2.2.2.2.2.2 s hs).2.1) ?_
        refine zN_icmp_ge (tgt := 97) dX7_load_40 rfl rfl (by omega) (by omega) (fun z => absurd z (by omega)) (fun _ => ?_)
        refine zV_aload_n dX7_load_43 rfl 0 rfl rfl ?_
        refine zV_iload_n dX7_load_44 rfl 2 rfl rfl ?_
        refine zV_callV (E' := eX7_isCoin (g_rmv 1)) (av := [.int (nI c)]) (st := []) (b := 76) dX7_load_45 rfl (k_RX7_124 _) rfl ⟨by decide, by decide⟩ ⟨by decide, by decide⟩ (Or.inl rfl) rfl (Nat.le_of_ble_eq_true rfl) rfl rfl rfl (m_isCoin (x := (nI c)) h1.1 (wf_lies hw.1 h1.2.2)) (fun r45 M45 z => ?_)
        obtain ⟨rfl, rfl⟩ := z
        show zV G (eX7_load (g_rmv 2)) (0, 0) 48 [(0, .ref 76), (1, .int (nI s)), (2, .int (nI c))] [.int (b2 (hasC S.1.1 (nI c)))] (mm I1 J t) _
        refine zB_if_eq (tgt := 97) dX7_load_48 rfl rfl  (fun z => absurd z (fun z => z ⟨nI_pos' (by omega), nI_lt (by omega) (by omega)⟩)) (fun _ => ?_)
        refine zV_aload_n dX7_load_51 rfl 0 rfl rfl ?_
        refine zV_getr (q' := 88) 23 dX7_load_52 rfl fl_RX7_61 rfl (by decide) rfl rfl ?_
        refine zV_bipush (v := (nI 40)) dX7_load_55 rfl rfl ?_
        refine zV_iload_n dX7_load_57 rfl 1 rfl rfl ?_
        refine zA_imul (z := (nI (40 * s))) dX7_load_58 rfl  (pk_mul _ _) ?_
        refine zV_iload_n dX7_load_59 rfl 2 rfl rfl ?_
        refine zA_iadd (z := (nI ((40 * s) + c))) dX7_load_60 rfl  (nI_add _ _) ?_
        refine zV_iald (x := (S.2.2.2.2.2.2.2 s c)) ((40 * s) + c) dX7_load_61 rfl rfl rfl (by omega) (by decide) (by rw [h1.2.1 88 (by decide)]; exact (hM.2.2.2.2.2.2 s hs).2.2 c (by omega)) ?_
        refine zV_iconst (v := (nI 0)) dX7_load_62 rfl rfl ?_
        refine zV_iconst (v := (nI 1)) dX7_load_63 rfl rfl ?_
        refine zV_callS (E' := eX7_within (g_rmv 0)) (av := [.int (S.2.2.2.2.2.2.2 s c), .int (nI 0), .int (nI 1)]) (st := []) dX7_load_64 rfl (k_RX7_72 _) rfl ⟨by decide, by decide⟩ ⟨by decide, by decide⟩ (Or.inl rfl) rfl (Nat.le_of_ble_eq_true rfl) (m_within (x := (S.2.2.2.2.2.2.2 s c)) (y := (nI 0)) (z := (nI 1))) (fun r64 M64 z => ?_)
        obtain ⟨rfl, rfl⟩ := z
        show zV G (eX7_load (g_rmv 2)) (0, 0) 67 [(0, .ref 76), (1, .int (nI s)), (2, .int (nI c))] [.int (b2 (inR (S.2.2.2.2.2.2.2 s c) 1))] (mm I1 J t) _
        refine zB_if_eq (tgt := 97) dX7_load_67 rfl rfl  (fun h67 => ?_) (fun h67 => ?_)
        · refine zV_iload_n dX7_load_97 rfl 2 rfl rfl ?_
          exact zV_ireturn dX7_load_98 rfl rfl (PM.land hM (by unfold op_load; rw [if_pos h4, tn_nI (show s < 2 ^ 31 by omega), if_neg h20, lgo_is hc h1.2.2 h67]) scM.rf h1.1 h1.2.1)
        · refine zV_aload_n dX7_load_70 rfl 0 rfl rfl ?_
          refine zV_getr (q' := 77) 0 dX7_load_71 rfl fl_RX7_9 rfl (by decide) rfl rfl ?_
          refine zV_iload_n dX7_load_74 rfl 2 rfl rfl ?_
          refine zV_iconst (v := (nI 4)) dX7_load_75 rfl rfl ?_
          refine zV_callS (E' := eX7_at (g_rmv 0)) (av := [.int (nI c), .int (nI 4)]) (st := [.ref 77]) dX7_load_76 rfl (k_RX7_80 _) rfl ⟨by decide, by decide⟩ ⟨by decide, by decide⟩ (Or.inl rfl) rfl (Nat.le_of_ble_eq_true rfl) (m_at (c := c) (f := 4)) (fun r76 M76 z => ?_)
          obtain ⟨rfl, rfl⟩ := z
          show zV G (eX7_load (g_rmv 2)) (0, 0) 79 [(0, .ref 76), (1, .int (nI s)), (2, .int (nI c))] [.int (nI (13 + 6 * c + 4)), .ref 77] (mm I1 J t) _
          refine zV_aload_n dX7_load_79 rfl 0 rfl rfl ?_
          refine zV_getr (q' := 88) 23 dX7_load_80 rfl fl_RX7_61 rfl (by decide) rfl rfl ?_
          refine zV_bipush (v := (nI 40)) dX7_load_83 rfl rfl ?_
          refine zV_iload_n dX7_load_85 rfl 1 rfl rfl ?_
          refine zA_imul (z := (nI (40 * s))) dX7_load_86 rfl  (pk_mul _ _) ?_
          refine zV_iload_n dX7_load_87 rfl 2 rfl rfl ?_
          refine zA_iadd (z := (nI ((40 * s) + c))) dX7_load_88 rfl  (nI_add _ _) ?_
          refine zV_iald (x := (S.2.2.2.2.2.2.2 s c)) ((40 * s) + c) dX7_load_89 rfl rfl rfl (by omega) (by decide) (by rw [h1.2.1 88 (by decide)]; exact (hM.2.2.2.2.2.2 s hs).2.2 c (by omega)) ?_
          refine zV_iastore (13 + 6 * c + 4) dX7_load_90 rfl rfl rfl (by omega) (by decide)  ?_
          refine zV_iinc (y := (nI (c + 1))) (lv' := [(0, .ref 76), (1, .int (nI s)), (2, .int (nI (c + 1)))]) dX7_load_91 rfl 2 rfl (nI_1 _) (by decide) rfl ?_
          refine zV_goto (tgt := 33) dX7_load_94 rfl ?_
          exact ih _ ⟨h1.1.lies h67, h1.2.1.tr frM.up, fun i hi => by
              by_cases e : i = c
              · rw [e]; exact h67
              · exact h1.2.2 i (by omega)⟩
    · refine zV_aload_n dX7_load_23 rfl 0 rfl rfl ?_
      refine zV_ldcw (v := (-1000006)) dX7_load_24 rfl tw1329 ?_
      refine zV_callV (E' := eX7_finding (g_rmv 0)) (av := [.int (-1000006)]) (st := []) (b := 76) dX7_load_27 rfl (k_RX7_87 _) rfl ⟨by decide, by decide⟩ ⟨by decide, by decide⟩ (Or.inl rfl) rfl (Nat.le_of_ble_eq_true rfl) rfl rfl rfl (m_finding (w := 5) (by decide) (by decide)) (fun r27 M27 z => ?_)
      obtain ⟨rfl, rfl⟩ := z
      show zV G (eX7_load (g_rmv 2)) (0, 0) 30 [(0, .ref 76), (1, .int (nI s))] [.int (fdg 5)] (mm (mTell I 5) J t) _
      exact zV_ireturn dX7_load_30 rfl rfl (PM.tell hM (by decide) (by unfold op_load; rw [if_pos h4, tn_nI (show s < 2 ^ 31 by omega), if_pos h20]) scM.rf)
  · refine zV_aload_n dX7_load_7 rfl 0 rfl rfl ?_
    refine zV_ldc (v := (-1000001)) dX7_load_8 rfl tw970 ?_
    refine zV_callV (E' := eX7_finding (g_rmv 0)) (av := [.int (-1000001)]) (st := []) (b := 76) dX7_load_10 rfl (k_RX7_87 _) rfl ⟨by decide, by decide⟩ ⟨by decide, by decide⟩ (Or.inl rfl) rfl (Nat.le_of_ble_eq_true rfl) rfl rfl rfl (m_finding (w := 0) (by decide) (by decide)) (fun r10 M10 z => ?_)
    obtain ⟨rfl, rfl⟩ := z
    show zV G (eX7_load (g_rmv 2)) (0, 0) 13 [(0, .ref 76), (1, .int x)] [.int (fdg 0)] (mm (mTell I 0) J t) _
    exact zV_ireturn dX7_load_13 rfl rfl (PM.tell hM (by decide) (by unfold op_load; rw [if_neg h4]) scM.rf)
