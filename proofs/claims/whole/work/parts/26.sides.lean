/-! sides, spots: both classes -/
set_option maxRecDepth 100000 in
theorem p_highest {G : mG} {I : Nat → Nat → Int32} {J : Nat → Nat → Int64} {t : Nat} {B : Nat} {S : aS} (hC : InvC I S) (hw : wfS B S) {x : Int32} : zC G yX6_highest (eX6_highest (g_rmv 3)) [.ref 0, .int x] (mm I J t) (fun r M => PC I (op_highest S x) r M) := by
  refine zC_of (by decide +kernel) rfl (by decide) (Nat.le_of_ble_eq_true rfl) ?_
  have n10 := hw.1.1
  show zV G (eX6_highest (g_rmv 3)) (0, 0) 0 [(0, .ref 0), (1, .int x)] [] (mm I J t) _
  refine zV_iload_n dX6_highest_0 rfl 1 rfl rfl ?_
  refine zV_callS (E' := eX6_isPurse (g_rmv 1)) (av := [.int x]) (st := []) dX6_highest_1 rfl (k_RX6_124 _) rfl ⟨by decide, by decide⟩ ⟨by decide, by decide⟩ (Or.inl rfl) rfl (Nat.le_of_ble_eq_true rfl) (c_isPurse (x := x)) (fun r1 M1 z => ?_)
  obtain ⟨rfl, rfl⟩ := z
  show zV G (eX6_highest (g_rmv 3)) (0, 0) 4 [(0, .ref 0), (1, .int x)] [.int (b2 (inR x 3))] (mm I J t) _
  refine zB_if_ne (tgt := 14) dX6_highest_4 rfl rfl  (fun h4 => ?_) (fun h4 => ?_)
  · obtain ⟨p, hp, rfl⟩ := (inR_iff (by decide)).mp h4
    refine zV_iconst (v := (nI 0)) dX6_highest_14 rfl rfl ?_
    refine zV_istore_n (lv' := [(0, .ref 0), (1, .int (nI p)), (2, .int (nI 0))]) dX6_highest_15 rfl rfl (by decide) rfl ?_
    refine zV_iconst (v := (nI 0)) dX6_highest_16 rfl rfl ?_
    refine zV_istore_n (lv' := [(0, .ref 0), (1, .int (nI p)), (2, .int (nI 0)), (3, .int (nI 0))]) dX6_highest_17 rfl rfl (by decide) rfl ?_
    refine z_for (fun c => zV G (eX6_highest (g_rmv 3)) (0, 0) 18 [(0, .ref 0), (1, .int (nI p)), (2, .int (nI (fb_sm (fun c => if S.1.2.1 c 1 = p then max (k_now (S.1.2.1 c)) (k_oth (S.1.2.1 c)) else 0) c))), (3, .int (nI c))] [] (mm I J t) _) S.1.1 ?_ ?_ 0 (Nat.zero_le _)
    · skip
      refine zV_iload_n dX6_highest_18 rfl 3 rfl rfl ?_
      refine zV_aload_n dX6_highest_19 rfl 0 rfl rfl ?_
      refine zV_getr (q' := 1) 0 dX6_highest_20 rfl fl_RX6_12 rfl (by decide) rfl rfl ?_
      refine zV_getI (x := (nI S.1.1)) 2 dX6_highest_23 rfl fl_RX6_74 (sh_land (Or.inl rfl)) (by decide) rfl hC.1.1 ?_
      refine zN_icmp_ge (tgt := 71) dX6_highest_26 rfl rfl (by omega) (by omega) (fun _ => ?_) (fun z => absurd z (by omega))
      refine zV_iload_n dX6_highest_71 rfl 2 rfl rfl ?_
      exact zV_ireturn dX6_highest_72 rfl rfl (PC.same hC hw (by unfold op_highest; rw [if_pos h4, tn_nI (show p < 2 ^ 31 by omega)]; rfl) (fun _ _ => rfl))
    · intro c hc ih
      have w := hw.1.2.1 c hc
      obtain ⟨w0, w1, w2, w3, w4, w5, w6⟩ := id w
      have b1 := k_wIf_le w (S.1.2.1 c 0) (S.1.2.1 c 4) (S.1.2.1 c 5) (S.1.2.1 c 1)
      have b2 := k_wIf_le w (S.1.2.1 c 0) (1 - S.1.2.1 c 4) (S.1.2.1 c 5) (S.1.2.1 c 1)
      have b3 : k_now (S.1.2.1 c) ≤ 100 := b1
      have b4 : k_oth (S.1.2.1 c) ≤ 100 := b2
      refine zV_iload_n dX6_highest_18 rfl 3 rfl rfl ?_
      refine zV_aload_n dX6_highest_19 rfl 0 rfl rfl ?_
      refine zV_getr (q' := 1) 0 dX6_highest_20 rfl fl_RX6_12 rfl (by decide) rfl rfl ?_
      refine zV_getI (x := (nI S.1.1)) 2 dX6_highest_23 rfl fl_RX6_74 (sh_land (Or.inl rfl)) (by decide) rfl hC.1.1 ?_
      refine zN_icmp_ge (tgt := 71) dX6_highest_26 rfl rfl (by omega) (by omega) (fun z => absurd z (by omega)) (fun _ => ?_)
      refine zV_aload_n dX6_highest_29 rfl 0 rfl rfl ?_
      refine zV_getr (q' := 1) 0 dX6_highest_30 rfl fl_RX6_12 rfl (by decide) rfl rfl ?_
      refine zV_getrX (q' := (1 + 1)) 0 dX6_highest_33 rfl fl_RX6_86 (sh_land (Or.inl rfl)) (by decide) rfl (R_coins (Or.inl rfl)) ?_
      refine zV_iload_n dX6_highest_36 rfl 3 rfl rfl ?_
      refine zV_aaload (q' := (1 + 3 + c)) c dX6_highest_37 rfl (sh_coins (Or.inl rfl)) rfl (by decide) rfl (by omega) (by decide) (R_coin (Or.inl rfl) (by omega)) ?_
      refine zV_astore (lv' := [(0, .ref 0), (1, .int (nI p)), (2, .int (nI (fb_sm (fun c => if S.1.2.1 c 1 = p then max (k_now (S.1.2.1 c)) (k_oth (S.1.2.1 c)) else 0) c))), (3, .int (nI c)), (4, .ref (1 + 3 + c))]) dX6_highest_38 rfl (by decide) rfl ?_
      refine zV_aload dX6_highest_40 rfl 4 rfl ?_
      refine zV_getI (x := (nI (S.1.2.1 c 1))) 1 dX6_highest_42 rfl fl_RX6_95 (sh_coin (Or.inl rfl) (by omega)) (by decide) rfl (hC.1.2.1 c hc 1 (by decide)) ?_
      refine zV_iload_n dX6_highest_45 rfl 1 rfl rfl ?_
      refine zN_icmp_ne (tgt := 65) dX6_highest_46 rfl rfl (by omega) (by omega) (fun h46 => ?_) (fun h46 => ?_)
      · refine zV_iinc (y := (nI (c + 1))) (lv' := [(0, .ref 0), (1, .int (nI p)), (2, .int (nI (fb_sm (fun c => if S.1.2.1 c 1 = p then max (k_now (S.1.2.1 c)) (k_oth (S.1.2.1 c)) else 0) c))), (3, .int (nI (c + 1))), (4, .ref (1 + 3 + c))]) dX6_highest_65 rfl 3 rfl (nI_1 _) (by decide) rfl ?_
        refine zV_goto (tgt := 18) dX6_highest_68 rfl ?_
        refine zV_keep (lv' := [(0, .ref 0), (1, .int (nI p)), (2, .int (nI (fb_sm (fun c => if S.1.2.1 c 1 = p then max (k_now (S.1.2.1 c)) (k_oth (S.1.2.1 c)) else 0) c))), (3, .int (nI (c + 1)))]) [0, 1, 2, 3] rfl ?_
        rw [show fb_sm (fun c => if S.1.2.1 c 1 = p then max (k_now (S.1.2.1 c)) (k_oth (S.1.2.1 c)) else 0) (c + 1) = (fb_sm (fun c => if S.1.2.1 c 1 = p then max (k_now (S.1.2.1 c)) (k_oth (S.1.2.1 c)) else 0) c) by rw [fb_sm_succ]; simp [h46]] at ih
        exact ih
      · refine zV_iload_n dX6_highest_49 rfl 2 rfl rfl ?_
        refine zV_aload dX6_highest_50 rfl 4 rfl ?_
        refine zV_callV (E' := eX0_worthNow (g_rmv 2)) (av := []) (st := [.int (nI (fb_sm (fun c => if S.1.2.1 c 1 = p then max (k_now (S.1.2.1 c)) (k_oth (S.1.2.1 c)) else 0) c))]) (b := (1 + 3 + c)) dX6_highest_52 rfl (k_RX6_110 _) rfl ⟨by decide, by decide⟩ ⟨by decide, by decide⟩ (Or.inl rfl) rfl (Nat.le_of_ble_eq_true rfl) (sh_coin (Or.inl rfl) (by omega)) rfl rfl (c_worthNow (sh_coin (Or.inl rfl) (by omega)) (hC.1.2.1 c hc) (hw.1.2.1 c hc)) (fun r52 M52 z => ?_)
        obtain ⟨rfl, rfl⟩ := z
        show zV G (eX6_highest (g_rmv 3)) (0, 0) 55 [(0, .ref 0), (1, .int (nI p)), (2, .int (nI (fb_sm (fun c => if S.1.2.1 c 1 = p then max (k_now (S.1.2.1 c)) (k_oth (S.1.2.1 c)) else 0) c))), (3, .int (nI c)), (4, .ref (1 + 3 + c))] [.int (nI (k_now (S.1.2.1 c))), .int (nI (fb_sm (fun c => if S.1.2.1 c 1 = p then max (k_now (S.1.2.1 c)) (k_oth (S.1.2.1 c)) else 0) c))] (mm I J t) _
        refine zV_aload dX6_highest_55 rfl 4 rfl ?_
        refine zV_callV (E' := eX0_worthOtherWay (g_rmv 2)) (av := []) (st := [.int (nI (k_now (S.1.2.1 c))), .int (nI (fb_sm (fun c => if S.1.2.1 c 1 = p then max (k_now (S.1.2.1 c)) (k_oth (S.1.2.1 c)) else 0) c))]) (b := (1 + 3 + c)) dX6_highest_57 rfl (k_RX6_213 _) rfl ⟨by decide, by decide⟩ ⟨by decide, by decide⟩ (Or.inl rfl) rfl (Nat.le_of_ble_eq_true rfl) (sh_coin (Or.inl rfl) (by omega)) rfl rfl (c_worthOther (sh_coin (Or.inl rfl) (by omega)) (hC.1.2.1 c hc) (hw.1.2.1 c hc)) (fun r57 M57 z => ?_)
        obtain ⟨rfl, rfl⟩ := z
        show zV G (eX6_highest (g_rmv 3)) (0, 0) 60 [(0, .ref 0), (1, .int (nI p)), (2, .int (nI (fb_sm (fun c => if S.1.2.1 c 1 = p then max (k_now (S.1.2.1 c)) (k_oth (S.1.2.1 c)) else 0) c))), (3, .int (nI c)), (4, .ref (1 + 3 + c))] [.int (nI (k_oth (S.1.2.1 c))), .int (nI (k_now (S.1.2.1 c))), .int (nI (fb_sm (fun c => if S.1.2.1 c 1 = p then max (k_now (S.1.2.1 c)) (k_oth (S.1.2.1 c)) else 0) c))] (mm I J t) _
        refine zV_callS (E' := eJ9_max_7cf53 (g_rmv 0)) (av := [.int (nI (k_now (S.1.2.1 c))), .int (nI (k_oth (S.1.2.1 c)))]) (st := [.int (nI (fb_sm (fun c => if S.1.2.1 c 1 = p then max (k_now (S.1.2.1 c)) (k_oth (S.1.2.1 c)) else 0) c))]) dX6_highest_60 rfl (k_RX6_216 _) rfl ⟨by decide, by decide⟩ ⟨by decide, by decide⟩ (Or.inl rfl) rfl (Nat.le_of_ble_eq_true rfl) (c_maxn (a := (k_now (S.1.2.1 c))) (b := (k_oth (S.1.2.1 c))) (by omega) (by omega)) (fun r60 M60 z => ?_)
        obtain ⟨rfl, rfl⟩ := z
        show zV G (eX6_highest (g_rmv 3)) (0, 0) 63 [(0, .ref 0), (1, .int (nI p)), (2, .int (nI (fb_sm (fun c => if S.1.2.1 c 1 = p then max (k_now (S.1.2.1 c)) (k_oth (S.1.2.1 c)) else 0) c))), (3, .int (nI c)), (4, .ref (1 + 3 + c))] [.int (nI (max (k_now (S.1.2.1 c)) (k_oth (S.1.2.1 c)))), .int (nI (fb_sm (fun c => if S.1.2.1 c 1 = p then max (k_now (S.1.2.1 c)) (k_oth (S.1.2.1 c)) else 0) c))] (mm I J t) _
        refine zA_iadd (z := (nI ((fb_sm (fun c => if S.1.2.1 c 1 = p then max (k_now (S.1.2.1 c)) (k_oth (S.1.2.1 c)) else 0) c) + (max (k_now (S.1.2.1 c)) (k_oth (S.1.2.1 c)))))) dX6_highest_63 rfl  (nI_add _ _) ?_
        refine zV_istore_n (lv' := [(0, .ref 0), (1, .int (nI p)), (2, .int (nI ((fb_sm (fun c => if S.1.2.1 c 1 = p then max (k_now (S.1.2.1 c)) (k_oth (S.1.2.1 c)) else 0) c) + (max (k_now (S.1.2.1 c)) (k_oth (S.1.2.1 c)))))), (3, .int (nI c)), (4, .ref (1 + 3 + c))]) dX6_highest_64 rfl rfl (by decide) rfl ?_
        refine zV_iinc (y := (nI (c + 1))) (lv' := [(0, .ref 0), (1, .int (nI p)), (2, .int (nI ((fb_sm (fun c => if S.1.2.1 c 1 = p then max (k_now (S.1.2.1 c)) (k_oth (S.1.2.1 c)) else 0) c) + (max (k_now (S.1.2.1 c)) (k_oth (S.1.2.1 c)))))), (3, .int (nI (c + 1))), (4, .ref (1 + 3 + c))]) dX6_highest_65 rfl 3 rfl (nI_1 _) (by decide) rfl ?_
        refine zV_goto (tgt := 18) dX6_highest_68 rfl ?_
        refine zV_keep (lv' := [(0, .ref 0), (1, .int (nI p)), (2, .int (nI ((fb_sm (fun c => if S.1.2.1 c 1 = p then max (k_now (S.1.2.1 c)) (k_oth (S.1.2.1 c)) else 0) c) + (max (k_now (S.1.2.1 c)) (k_oth (S.1.2.1 c)))))), (3, .int (nI (c + 1)))]) [0, 1, 2, 3] rfl ?_
        rw [show fb_sm (fun c => if S.1.2.1 c 1 = p then max (k_now (S.1.2.1 c)) (k_oth (S.1.2.1 c)) else 0) (c + 1) = ((fb_sm (fun c => if S.1.2.1 c 1 = p then max (k_now (S.1.2.1 c)) (k_oth (S.1.2.1 c)) else 0) c) + (max (k_now (S.1.2.1 c)) (k_oth (S.1.2.1 c)))) by rw [fb_sm_succ]; simp [h46]] at ih
        exact ih
  · refine zV_aload_n dX6_highest_7 rfl 0 rfl rfl ?_
    refine zV_ldc (v := (-1000001)) dX6_highest_8 rfl tw264 ?_
    refine zV_callV (E' := eX6_tell (g_rmv 1)) (av := [.int (-1000001)]) (st := []) (b := 0) dX6_highest_10 rfl (k_RX6_70 _) rfl ⟨by decide, by decide⟩ ⟨by decide, by decide⟩ (Or.inl rfl) rfl (Nat.le_of_ble_eq_true rfl) rfl rfl rfl (c_tell (w := 0) (by decide) (by decide)) (fun r10 M10 z => ?_)
    obtain ⟨rfl, rfl⟩ := z
    show zV G (eX6_highest (g_rmv 3)) (0, 0) 13 [(0, .ref 0), (1, .int x)] [.int (fdg 0)] (mm (up2 I 67 0 (I 67 0 + nI 1)) J t) _
    exact zV_ireturn dX6_highest_13 rfl rfl (PC.tell hC hw (by unfold op_highest; rw [if_neg h4]) (fun _ _ => rfl))

set_option maxRecDepth 100000 in
theorem q_highest {G : mG} {I : Nat → Nat → Int32} {J : Nat → Nat → Int64} {t : Nat} {B : Nat} {S : aS} (hM : InvM I S) (hw : wfS B S) {x : Int32} : zC G yX7_highest (eX7_highest (g_rmv 4)) [.ref 76, .int x] (mm I J t) (fun r M => PM I (op_highest S x) r M) := by
  refine zC_of (by decide +kernel) rfl (by decide) (Nat.le_of_ble_eq_true rfl) ?_
  have n10 := hw.1.1
  show zV G (eX7_highest (g_rmv 4)) (0, 0) 0 [(0, .ref 76), (1, .int x)] [] (mm I J t) _
  refine zV_iload_n dX7_highest_0 rfl 1 rfl rfl ?_
  refine zV_callS (E' := eX7_isPurse (g_rmv 1)) (av := [.int x]) (st := []) dX7_highest_1 rfl (k_RX7_76 _) rfl ⟨by decide, by decide⟩ ⟨by decide, by decide⟩ (Or.inl rfl) rfl (Nat.le_of_ble_eq_true rfl) (m_isPurse (x := x)) (fun r1 M1 z => ?_)
  obtain ⟨rfl, rfl⟩ := z
  show zV G (eX7_highest (g_rmv 4)) (0, 0) 4 [(0, .ref 76), (1, .int x)] [.int (b2 (inR x 3))] (mm I J t) _
  refine zB_if_ne (tgt := 14) dX7_highest_4 rfl rfl  (fun h4 => ?_) (fun h4 => ?_)
  · obtain ⟨p, hp, rfl⟩ := (inR_iff (by decide)).mp h4
    refine zV_iconst (v := (nI 0)) dX7_highest_14 rfl rfl ?_
    refine zV_istore_n (lv' := [(0, .ref 76), (1, .int (nI p)), (2, .int (nI 0))]) dX7_highest_15 rfl rfl (by decide) rfl ?_
    refine zV_iconst (v := (nI 0)) dX7_highest_16 rfl rfl ?_
    refine zV_istore_n (lv' := [(0, .ref 76), (1, .int (nI p)), (2, .int (nI 0)), (3, .int (nI 0))]) dX7_highest_17 rfl rfl (by decide) rfl ?_
    refine z_for (fun c => zV G (eX7_highest (g_rmv 4)) (0, 0) 18 [(0, .ref 76), (1, .int (nI p)), (2, .int (nI (fb_sm (fun c => if S.1.2.1 c 1 = p then max (k_now (S.1.2.1 c)) (k_oth (S.1.2.1 c)) else 0) c))), (3, .int (nI c))] [] (mm I J t) _) S.1.1 ?_ ?_ 0 (Nat.zero_le _)
    · skip
      refine zV_iload_n dX7_highest_18 rfl 3 rfl rfl ?_
      refine zV_aload_n dX7_highest_19 rfl 0 rfl rfl ?_
      refine zV_getr (q' := 77) 0 dX7_highest_20 rfl fl_RX7_9 rfl (by decide) rfl rfl ?_
      refine zV_iconst (v := (nI 1)) dX7_highest_23 rfl rfl ?_
      refine zV_iald (x := (nI S.1.1)) 1 dX7_highest_24 rfl rfl rfl (by decide) (by decide) hM.1.2.1 ?_
      refine zN_icmp_ge (tgt := 64) dX7_highest_25 rfl rfl (by omega) (by omega) (fun _ => ?_) (fun z => absurd z (by omega))
      refine zV_iload_n dX7_highest_64 rfl 2 rfl rfl ?_
      exact zV_ireturn dX7_highest_65 rfl rfl (PM.same hM (by unfold op_highest; rw [if_pos h4, tn_nI (show p < 2 ^ 31 by omega)]; rfl) scM.rf)
    · intro c hc ih
      have w := hw.1.2.1 c hc
      obtain ⟨w0, w1, w2, w3, w4, w5, w6⟩ := id w
      have b1 := k_wIf_le w (S.1.2.1 c 0) (S.1.2.1 c 4) (S.1.2.1 c 5) (S.1.2.1 c 1)
      have b2 := k_wIf_le w (S.1.2.1 c 0) (1 - S.1.2.1 c 4) (S.1.2.1 c 5) (S.1.2.1 c 1)
      have b3 : k_now (S.1.2.1 c) ≤ 100 := b1
      have b4 : k_oth (S.1.2.1 c) ≤ 100 := b2
      refine zV_iload_n dX7_highest_18 rfl 3 rfl rfl ?_
      refine zV_aload_n dX7_highest_19 rfl 0 rfl rfl ?_
      refine zV_getr (q' := 77) 0 dX7_highest_20 rfl fl_RX7_9 rfl (by decide) rfl rfl ?_
      refine zV_iconst (v := (nI 1)) dX7_highest_23 rfl rfl ?_
      refine zV_iald (x := (nI S.1.1)) 1 dX7_highest_24 rfl rfl rfl (by decide) (by decide) hM.1.2.1 ?_
      refine zN_icmp_ge (tgt := 64) dX7_highest_25 rfl rfl (by omega) (by omega) (fun z => absurd z (by omega)) (fun _ => ?_)
      refine zV_iload_n dX7_highest_28 rfl 2 rfl rfl ?_
      refine zV_aload_n dX7_highest_29 rfl 0 rfl rfl ?_
      refine zV_iload_n dX7_highest_30 rfl 3 rfl rfl ?_
      refine zV_iconst (v := (nI 1)) dX7_highest_31 rfl rfl ?_
      refine zV_callV (E' := eX7_coinIs (g_rmv 1)) (av := [.int (nI c), .int (nI 1)]) (st := [.int (nI (fb_sm (fun c => if S.1.2.1 c 1 = p then max (k_now (S.1.2.1 c)) (k_oth (S.1.2.1 c)) else 0) c))]) (b := 76) dX7_highest_32 rfl (k_RX7_99 _) rfl ⟨by decide, by decide⟩ ⟨by decide, by decide⟩ (Or.inl rfl) rfl (Nat.le_of_ble_eq_true rfl) rfl rfl rfl (m_coinIs (c := c) (f := 1) hM.1 hw.1 hc (by decide)) (fun r32 M32 z => ?_)
      obtain ⟨rfl, rfl⟩ := z
      show zV G (eX7_highest (g_rmv 4)) (0, 0) 35 [(0, .ref 76), (1, .int (nI p)), (2, .int (nI (fb_sm (fun c => if S.1.2.1 c 1 = p then max (k_now (S.1.2.1 c)) (k_oth (S.1.2.1 c)) else 0) c))), (3, .int (nI c))] [.int (nI (S.1.2.1 c 1)), .int (nI (fb_sm (fun c => if S.1.2.1 c 1 = p then max (k_now (S.1.2.1 c)) (k_oth (S.1.2.1 c)) else 0) c))] (mm I J t) _
      refine zV_iload_n dX7_highest_35 rfl 1 rfl rfl ?_
      refine zN_icmp_ne (tgt := 55) dX7_highest_36 rfl rfl (by omega) (by omega) (fun h36 => ?_) (fun h36 => ?_)
      · refine zV_iconst (v := (nI 0)) dX7_highest_55 rfl rfl ?_
        refine zA_iadd (z := (nI (fb_sm (fun c => if S.1.2.1 c 1 = p then max (k_now (S.1.2.1 c)) (k_oth (S.1.2.1 c)) else 0) c))) dX7_highest_56 rfl  (z_add0 _) ?_
        refine zV_istore_n (lv' := [(0, .ref 76), (1, .int (nI p)), (2, .int (nI (fb_sm (fun c => if S.1.2.1 c 1 = p then max (k_now (S.1.2.1 c)) (k_oth (S.1.2.1 c)) else 0) c))), (3, .int (nI c))]) dX7_highest_57 rfl rfl (by decide) rfl ?_
        refine zV_iinc (y := (nI (c + 1))) (lv' := [(0, .ref 76), (1, .int (nI p)), (2, .int (nI (fb_sm (fun c => if S.1.2.1 c 1 = p then max (k_now (S.1.2.1 c)) (k_oth (S.1.2.1 c)) else 0) c))), (3, .int (nI (c + 1)))]) dX7_highest_58 rfl 3 rfl (nI_1 _) (by decide) rfl ?_
        refine zV_goto (tgt := 18) dX7_highest_61 rfl ?_
        rw [show fb_sm (fun c => if S.1.2.1 c 1 = p then max (k_now (S.1.2.1 c)) (k_oth (S.1.2.1 c)) else 0) (c + 1) = (fb_sm (fun c => if S.1.2.1 c 1 = p then max (k_now (S.1.2.1 c)) (k_oth (S.1.2.1 c)) else 0) c) by rw [fb_sm_succ]; simp [h36]] at ih
        exact ih
      · refine zV_aload_n dX7_highest_39 rfl 0 rfl rfl ?_
        refine zV_iload_n dX7_highest_40 rfl 3 rfl rfl ?_
        refine zV_callV (E' := eX7_worth (g_rmv 3)) (av := [.int (nI c)]) (st := [.int (nI (fb_sm (fun c => if S.1.2.1 c 1 = p then max (k_now (S.1.2.1 c)) (k_oth (S.1.2.1 c)) else 0) c))]) (b := 76) dX7_highest_41 rfl (k_RX7_127 _) rfl ⟨by decide, by decide⟩ ⟨by decide, by decide⟩ (Or.inl rfl) rfl (Nat.le_of_ble_eq_true rfl) rfl rfl rfl (m_worth (c := c) hM.1 hw.1 hc) (fun r41 M41 z => ?_)
        obtain ⟨rfl, rfl⟩ := z
        show zV G (eX7_highest (g_rmv 4)) (0, 0) 44 [(0, .ref 76), (1, .int (nI p)), (2, .int (nI (fb_sm (fun c => if S.1.2.1 c 1 = p then max (k_now (S.1.2.1 c)) (k_oth (S.1.2.1 c)) else 0) c))), (3, .int (nI c))] [.int (nI (k_now (S.1.2.1 c))), .int (nI (fb_sm (fun c => if S.1.2.1 c 1 = p then max (k_now (S.1.2.1 c)) (k_oth (S.1.2.1 c)) else 0) c))] (mm I J t) _
        refine zV_aload_n dX7_highest_44 rfl 0 rfl rfl ?_
        refine zV_iload_n dX7_highest_45 rfl 3 rfl rfl ?_
        refine zV_callV (E' := eX7_worthOtherwise (g_rmv 3)) (av := [.int (nI c)]) (st := [.int (nI (k_now (S.1.2.1 c))), .int (nI (fb_sm (fun c => if S.1.2.1 c 1 = p then max (k_now (S.1.2.1 c)) (k_oth (S.1.2.1 c)) else 0) c))]) (b := 76) dX7_highest_46 rfl (k_RX7_217 _) rfl ⟨by decide, by decide⟩ ⟨by decide, by decide⟩ (Or.inl rfl) rfl (Nat.le_of_ble_eq_true rfl) rfl rfl rfl (m_worthOth (c := c) hM.1 hw.1 hc) (fun r46 M46 z => ?_)
        obtain ⟨rfl, rfl⟩ := z
        show zV G (eX7_highest (g_rmv 4)) (0, 0) 49 [(0, .ref 76), (1, .int (nI p)), (2, .int (nI (fb_sm (fun c => if S.1.2.1 c 1 = p then max (k_now (S.1.2.1 c)) (k_oth (S.1.2.1 c)) else 0) c))), (3, .int (nI c))] [.int (nI (k_oth (S.1.2.1 c))), .int (nI (k_now (S.1.2.1 c))), .int (nI (fb_sm (fun c => if S.1.2.1 c 1 = p then max (k_now (S.1.2.1 c)) (k_oth (S.1.2.1 c)) else 0) c))] (mm I J t) _
        refine zV_callS (E' := eJ9_max_7cf53 (g_rmv 0)) (av := [.int (nI (k_now (S.1.2.1 c))), .int (nI (k_oth (S.1.2.1 c)))]) (st := [.int (nI (fb_sm (fun c => if S.1.2.1 c 1 = p then max (k_now (S.1.2.1 c)) (k_oth (S.1.2.1 c)) else 0) c))]) dX7_highest_49 rfl (k_RX7_102 _) rfl ⟨by decide, by decide⟩ ⟨by decide, by decide⟩ (Or.inl rfl) rfl (Nat.le_of_ble_eq_true rfl) (c_maxn (a := (k_now (S.1.2.1 c))) (b := (k_oth (S.1.2.1 c))) (by omega) (by omega)) (fun r49 M49 z => ?_)
        obtain ⟨rfl, rfl⟩ := z
        show zV G (eX7_highest (g_rmv 4)) (0, 0) 52 [(0, .ref 76), (1, .int (nI p)), (2, .int (nI (fb_sm (fun c => if S.1.2.1 c 1 = p then max (k_now (S.1.2.1 c)) (k_oth (S.1.2.1 c)) else 0) c))), (3, .int (nI c))] [.int (nI (max (k_now (S.1.2.1 c)) (k_oth (S.1.2.1 c)))), .int (nI (fb_sm (fun c => if S.1.2.1 c 1 = p then max (k_now (S.1.2.1 c)) (k_oth (S.1.2.1 c)) else 0) c))] (mm I J t) _
        refine zV_goto (tgt := 56) dX7_highest_52 rfl ?_
        refine zA_iadd (z := (nI ((fb_sm (fun c => if S.1.2.1 c 1 = p then max (k_now (S.1.2.1 c)) (k_oth (S.1.2.1 c)) else 0) c) + (max (k_now (S.1.2.1 c)) (k_oth (S.1.2.1 c)))))) dX7_highest_56 rfl  (nI_add _ _) ?_
        refine zV_istore_n (lv' := [(0, .ref 76), (1, .int (nI p)), (2, .int (nI ((fb_sm (fun c => if S.1.2.1 c 1 = p then max (k_now (S.1.2.1 c)) (k_oth (S.1.2.1 c)) else 0) c) + (max (k_now (S.1.2.1 c)) (k_oth (S.1.2.1 c)))))), (3, .int (nI c))]) dX7_highest_57 rfl rfl (by decide) rfl ?_
        refine zV_iinc (y := (nI (c + 1))) (lv' := [(0, .ref 76), (1, .int (nI p)), (2, .int (nI ((fb_sm (fun c => if S.1.2.1 c 1 = p then max (k_now (S.1.2.1 c)) (k_oth (S.1.2.1 c)) else 0) c) + (max (k_now (S.1.2.1 c)) (k_oth (S.1.2.1 c)))))), (3, .int (nI (c + 1)))]) dX7_highest_58 rfl 3 rfl (nI_1 _) (by decide) rfl ?_
        refine zV_goto (tgt := 18) dX7_highest_61 rfl ?_
        rw [show fb_sm (fun c => if S.1.2.1 c 1 = p then max (k_now (S.1.2.1 c)) (k_oth (S.1.2.1 c)) else 0) (c + 1) = ((fb_sm (fun c => if S.1.2.1 c 1 = p then max (k_now (S.1.2.1 c)) (k_oth (S.1.2.1 c)) else 0) c) + (max (k_now (S.1.2.1 c)) (k_oth (S.1.2.1 c)))) by rw [fb_sm_succ]; simp [h36]] at ih
        exact ih
  · refine zV_aload_n dX7_highest_7 rfl 0 rfl rfl ?_
    refine zV_ldc (v := (-1000001)) dX7_highest_8 rfl tw970 ?_
    refine zV_callV (E' := eX7_finding (g_rmv 0)) (av := [.int (-1000001)]) (st := []) (b := 76) dX7_highest_10 rfl (k_RX7_87 _) rfl ⟨by decide, by decide⟩ ⟨by decide, by decide⟩ (Or.inl rfl) rfl (Nat.le_of_ble_eq_true rfl) rfl rfl rfl (m_finding (w := 0) (by decide) (by decide)) (fun r10 M10 z => ?_)
    obtain ⟨rfl, rfl⟩ := z
    show zV G (eX7_highest (g_rmv 4)) (0, 0) 13 [(0, .ref 76), (1, .int x)] [.int (fdg 0)] (mm (mTell I 0) J t) _
    exact zV_ireturn dX7_highest_13 rfl rfl (PM.tell hM (by decide) (by unfold op_highest; rw [if_neg h4]) scM.rf)

set_option maxRecDepth 100000 in
theorem p_wrong {G : mG} {I : Nat → Nat → Int32} {J : Nat → Nat → Int64} {t : Nat} {B : Nat} {S : aS} (hC : InvC I S) (hw : wfS B S) : zC G yX6_wrong (eX6_wrong (g_rmv 3)) [.ref 0] (mm I J t) (fun r M => PC I (op_wrong S) r M) := by
  refine zC_of (by decide +kernel) rfl (by decide) (Nat.le_of_ble_eq_true rfl) ?_
  have n10 := hw.1.1
  show zV G (eX6_wrong (g_rmv 3)) (0, 0) 0 [(0, .ref 0)] [] (mm I J t) _
  refine zV_iconst (v := (nI 0)) dX6_wrong_0 rfl rfl ?_
  refine zV_istore_n (lv' := [(0, .ref 0), (1, .int (nI 0))]) dX6_wrong_1 rfl rfl (by decide) rfl ?_
  refine zV_iconst (v := (nI 0)) dX6_wrong_2 rfl rfl ?_
  refine zV_istore_n (lv' := [(0, .ref 0), (1, .int (nI 0)), (2, .int (nI 0))]) dX6_wrong_3 rfl rfl (by decide) rfl ?_
  refine z_for (fun c => zV G (eX6_wrong (g_rmv 3)) (0, 0) 4 [(0, .ref 0), (1, .int (nI (bitsTo (fun c => decide (k_now (S.1.2.1 c) < k_oth (S.1.2.1 c))) c))), (2, .int (nI c))] [] (mm I J t) _) S.1.1 ?_ ?_ 0 (Nat.zero_le _)
  · skip
    refine zV_iload_n dX6_wrong_4 rfl 2 rfl rfl ?_
    refine zV_aload_n dX6_wrong_5 rfl 0 rfl rfl ?_
    refine zV_getr (q' := 1) 0 dX6_wrong_6 rfl fl_RX6_12 rfl (by decide) rfl rfl ?_
    refine zV_getI (x := (nI S.1.1)) 2 dX6_wrong_9 rfl fl_RX6_74 (sh_land (Or.inl rfl)) (by decide) rfl hC.1.1 ?_
    refine zN_icmp_ge (tgt := 54) dX6_wrong_12 rfl rfl (by omega) (by omega) (fun _ => ?_) (fun z => absurd z (by omega))
    refine zV_iload_n dX6_wrong_54 rfl 1 rfl rfl ?_
    exact zV_ireturn dX6_wrong_55 rfl rfl (PC.same hC hw rfl (fun _ _ => rfl))
  · intro c hc ih
    have w := hw.1.2.1 c hc
    obtain ⟨w0, w1, w2, w3, w4, w5, w6⟩ := id w
    have b1 := k_wIf_le w (S.1.2.1 c 0) (S.1.2.1 c 4) (S.1.2.1 c 5) (S.1.2.1 c 1)
    have b2 := k_wIf_le w (S.1.2.1 c 0) (1 - S.1.2.1 c 4) (S.1.2.1 c 5) (S.1.2.1 c 1)
    have b3 : k_now (S.1.2.1 c) ≤ 100 := b1
    have b4 : k_oth (S.1.2.1 c) ≤ 100 := b2
    refine zV_iload_n dX6_wrong_4 rfl 2 rfl rfl ?_
    refine zV_aload_n dX6_wrong_5 rfl 0 rfl rfl ?_
    refine zV_getr (q' := 1) 0 dX6_wrong_6 rfl fl_RX6_12 rfl (by decide) rfl rfl ?_
    refine zV_getI (x := (nI S.1.1)) 2 dX6_wrong_9 rfl fl_RX6_74 (sh_land (Or.inl rfl)) (by decide) rfl hC.1.1 ?_
    refine zN_icmp_ge (tgt := 54) dX6_wrong_12 rfl rfl (by omega) (by omega) (fun z => absurd z (by omega)) (fun _ => ?_)
    refine zV_aload_n dX6_wrong_15 rfl 0 rfl rfl ?_
    refine zV_getr (q' := 1) 0 dX6_wrong_16 rfl fl_RX6_12 rfl (by decide) rfl rfl ?_
    refine zV_getrX (q' := (1 + 1)) 0 dX6_wrong_19 rfl fl_RX6_86 (sh_land (Or.inl rfl)) (by decide) rfl (R_coins (Or.inl rfl)) ?_
    refine zV_iload_n dX6_wrong_22 rfl 2 rfl rfl ?_
    refine zV_aaload (q' := (1 + 3 + c)) c dX6_wrong_23 rfl (sh_coins (Or.inl rfl)) rfl (by decide) rfl (by omega) (by decide) (R_coin (Or.inl rfl) (by omega)) ?_
    refine zV_callV (E' := eX0_worthOtherWay (g_rmv 2)) (av := []) (st := []) (b := (1 + 3 + c)) dX6_wrong_24 rfl (k_RX6_213 _) rfl ⟨by decide, by decide⟩ ⟨by decide, by decide⟩ (Or.inl rfl) rfl (Nat.le_of_ble_eq_true rfl) (sh_coin (Or.inl rfl) (by omega)) rfl rfl (c_worthOther (sh_coin (Or.inl rfl) (by omega)) (hC.1.2.1 c hc) (hw.1.2.1 c hc)) (fun r24 M24 z => ?_)
    obtain ⟨rfl, rfl⟩ := z
    show zV G (eX6_wrong (g_rmv 3)) (0, 0) 27 [(0, .ref 0), (1, .int (nI (bitsTo (fun c => decide (k_now (S.1.2.1 c) < k_oth (S.1.2.1 c))) c))), (2, .int (nI c))] [.int (nI (k_oth (S.1.2.1 c)))] (mm I J t) _
    refine zV_aload_n dX6_wrong_27 rfl 0 rfl rfl ?_
    refine zV_getr (q' := 1) 0 dX6_wrong_28 rfl fl_RX6_12 rfl (by decide) rfl rfl ?_
    refine zV_getrX (q' := (1 + 1)) 0 dX6_wrong_31 rfl fl_RX6_86 (sh_land (Or.inl rfl)) (by decide) rfl (R_coins (Or.inl rfl)) ?_
    refine zV_iload_n dX6_wrong_34 rfl 2 rfl rfl ?_
    refine zV_aaload (q' := (1 + 3 + c)) c dX6_wrong_35 rfl (sh_coins (Or.inl rfl)) rfl (by decide) rfl (by omega) (by decide) (R_coin (Or.inl rfl) (by omega)) ?_
    refine zV_callV (E' := eX0_worthNow (g_rmv 2)) (av := []) (st := [.int (nI (k_oth (S.1.2.1 c)))]) (b := (1 + 3 + c)) dX6_wrong_36 rfl (k_RX6_110 _) rfl ⟨by decide, by decide⟩ ⟨by decide, by decide⟩ (Or.inl rfl) rfl (Nat.le_of_ble_eq_true rfl) (sh_coin (Or.inl rfl) (by omega)) rfl rfl (c_worthNow (sh_coin (Or.inl rfl) (by omega)) (hC.1.2.1 c hc) (hw.1.2.1 c hc)) (fun r36 M36 z => ?_)
    obtain ⟨rfl, rfl⟩ := z
    show zV G (eX6_wrong (g_rmv 3)) (0, 0) 39 [(0, .ref 0), (1, .int (nI (bitsTo (fun c => decide (k_now (S.1.2.1 c) < k_oth (S.1.2.1 c))) c))), (2, .int (nI c))] [.int (nI (k_now (S.1.2.1 c))), .int (nI (k_oth (S.1.2.1 c)))] (mm I J t) _
    refine zN_icmp_le (tgt := 48) dX6_wrong_39 rfl rfl (by omega) (by omega) (fun h39 => ?_) (fun h39 => ?_)
    · refine zV_iinc (y := (nI (c + 1))) (lv' := [(0, .ref 0), (1, .int (nI (bitsTo (fun c => decide (k_now (S.1.2.1 c) < k_oth (S.1.2.1 c))) c))), (2, .int (nI (c + 1)))]) dX6_wrong_48 rfl 2 rfl (nI_1 _) (by decide) rfl ?_
      refine zV_goto (tgt := 4) dX6_wrong_51 rfl ?_
      rw [show bitsTo (fun c => decide (k_now (S.1.2.1 c) < k_oth (S.1.2.1 c))) (c + 1) = (bitsTo (fun c => decide (k_now (S.1.2.1 c) < k_oth (S.1.2.1 c))) c) by simp [bitsTo, show (¬ k_now (S.1.2.1 c) < k_oth (S.1.2.1 c)) by omega]] at ih
      exact ih
    · refine zV_iload_n dX6_wrong_42 rfl 1 rfl rfl ?_
      refine zV_iconst (v := (nI 1)) dX6_wrong_43 rfl rfl ?_
      refine zV_iload_n dX6_wrong_44 rfl 2 rfl rfl ?_
      refine zA_ishl (z := (nI (2 ^ c))) dX6_wrong_45 rfl  (z_shl1 (by omega)) ?_
      refine zA_ior (z := (nI ((bitsTo (fun c => decide (k_now (S.1.2.1 c) < k_oth (S.1.2.1 c))) c) + (2 ^ c)))) dX6_wrong_46 rfl  (z_or (bitsTo_lt _ _)) ?_
      refine zV_istore_n (lv' := [(0, .ref 0), (1, .int (nI ((bitsTo (fun c => decide (k_now (S.1.2.1 c) < k_oth (S.1.2.1 c))) c) + (2 ^ c)))), (2, .int (nI c))]) dX6_wrong_47 rfl rfl (by decide) rfl ?_
      refine zV_iinc (y := (nI (c + 1))) (lv' := [(0, .ref 0), (1, .int (nI ((bitsTo (fun c => decide (k_now (S.1.2.1 c) < k_oth (S.1.2.1 c))) c) + (2 ^ c)))), (2, .int (nI (c + 1)))]) dX6_wrong_48 rfl 2 rfl (nI_1 _) (by decide) rfl ?_
      refine zV_goto (tgt := 4) dX6_wrong_51 rfl ?_
      rw [show bitsTo (fun c => decide (k_now (S.1.2.1 c) < k_oth (S.1.2.1 c))) (c + 1) = ((bitsTo (fun c => decide (k_now (S.1.2.1 c) < k_oth (S.1.2.1 c))) c) + (2 ^ c)) by simp [bitsTo, show (k_now (S.1.2.1 c) < k_oth (S.1.2.1 c)) by omega]] at ih
      exact ih

set_option maxRecDepth 100000 in
theorem q_wrong {G : mG} {I : Nat → Nat → Int32} {J : Nat → Nat → Int64} {t : Nat} {B : Nat} {S : aS} (hM : InvM I S) (hw : wfS B S) : zC G yX7_wrong (eX7_wrong (g_rmv 4)) [.ref 76] (mm I J t) (fun r M => PM I (op_wrong S) r M) := by
  refine zC_of (by decide +kernel) rfl (by decide) (Nat.le_of_ble_eq_true rfl) ?_
  have n10 := hw.1.1
  show zV G (eX7_wrong (g_rmv 4)) (0, 0) 0 [(0, .ref 76)] [] (mm I J t) _
  refine zV_iconst (v := (nI 0)) dX7_wrong_0 rfl rfl ?_
  refine zV_istore_n (lv' := [(0, .ref 76), (1, .int (nI 0))]) dX7_wrong_1 rfl rfl (by decide) rfl ?_
  refine zV_iconst (v := (nI 0)) dX7_wrong_2 rfl rfl ?_
  refine zV_istore_n (lv' := [(0, .ref 76), (1, .int (nI 0)), (2, .int (nI 0))]) dX7_wrong_3 rfl rfl (by decide) rfl ?_
  refine z_for (fun c => zV G (eX7_wrong (g_rmv 4)) (0, 0) 4 [(0, .ref 76), (1, .int (nI (bitsTo (fun c => decide (k_now (S.1.2.1 c) < k_oth (S.1.2.1 c))) c))), (2, .int (nI c))] [] (mm I J t) _) S.1.1 ?_ ?_ 0 (Nat.zero_le _)
  · skip
    refine zV_iload_n dX7_wrong_4 rfl 2 rfl rfl ?_
    refine zV_aload_n dX7_wrong_5 rfl 0 rfl rfl ?_
    refine zV_getr (q' := 77) 0 dX7_wrong_6 rfl fl_RX7_9 rfl (by decide) rfl rfl ?_
    refine zV_iconst (v := (nI 1)) dX7_wrong_9 rfl rfl ?_
    refine zV_iald (x := (nI S.1.1)) 1 dX7_wrong_10 rfl rfl rfl (by decide) (by decide) hM.1.2.1 ?_
    refine zN_icmp_ge (tgt := 43) dX7_wrong_11 rfl rfl (by omega) (by omega) (fun _ => ?_) (fun z => absurd z (by omega))
    refine zV_iload_n dX7_wrong_43 rfl 1 rfl rfl ?_
    exact zV_ireturn dX7_wrong_44 rfl rfl (PM.same hM rfl scM.rf)
  · intro c hc ih
    have w := hw.1.2.1 c hc
    obtain ⟨w0, w1, w2, w3, w4, w5, w6⟩ := id w
    have b1 := k_wIf_le w (S.1.2.1 c 0) (S.1.2.1 c 4) (S.1.2.1 c 5) (S.1.2.1 c 1)
    have b2 := k_wIf_le w (S.1.2.1 c 0) (1 - S.1.2.1 c 4) (S.1.2.1 c 5) (S.1.2.1 c 1)
    have b3 : k_now (S.1.2.1 c) ≤ 100 := b1
    have b4 : k_oth (S.1.2.1 c) ≤ 100 := b2
    refine zV_iload_n dX7_wrong_4 rfl 2 rfl rfl ?_
    refine zV_aload_n dX7_wrong_5 rfl 0 rfl rfl ?_
    refine zV_getr (q' := 77) 0 dX7_wrong_6 rfl fl_RX7_9 rfl (by decide) rfl rfl ?_
    refine zV_iconst (v := (nI 1)) dX7_wrong_9 rfl rfl ?_
    refine zV_iald (x := (nI S.1.1)) 1 dX7_wrong_10 rfl rfl rfl (by decide) (by decide) hM.1.2.1 ?_
    refine zN_icmp_ge (tgt := 43) dX7_wrong_11 rfl rfl (by omega) (by omega) (fun z => absurd z (by omega)) (fun _ => ?_)
    refine zV_iload_n dX7_wrong_14 rfl 1 rfl rfl ?_
    refine zV_aload_n dX7_wrong_15 rfl 0 rfl rfl ?_
    refine zV_iload_n dX7_wrong_16 rfl 2 rfl rfl ?_
    refine zV_callV (E' := eX7_worthOtherwise (g_rmv 3)) (av := [.int (nI c)]) (st := [.int (nI (bitsTo (fun c => decide (k_now (S.1.2.1 c) < k_oth (S.1.2.1 c))) c))]) (b := 76) dX7_wrong_17 rfl (k_RX7_217 _) rfl ⟨by decide, by decide⟩ ⟨by decide, by decide⟩ (Or.inl rfl) rfl (Nat.le_of_ble_eq_true rfl) rfl rfl rfl (m_worthOth (c := c) hM.1 hw.1 hc) (fun r17 M17 z => ?_)
    obtain ⟨rfl, rfl⟩ := z
    show zV G (eX7_wrong (g_rmv 4)) (0, 0) 20 [(0, .ref 76), (1, .int (nI (bitsTo (fun c => decide (k_now (S.1.2.1 c) < k_oth (S.1.2.1 c))) c))), (2, .int (nI c))] [.int (nI (k_oth (S.1.2.1 c))), .int (nI (bitsTo (fun c => decide (k_now (S.1.2.1 c) < k_oth (S.1.2.1 c))) c))] (mm I J t) _
    refine zV_aload_n dX7_wrong_20 rfl 0 rfl rfl ?_
    refine zV_iload_n dX7_wrong_21 rfl 2 rfl rfl ?_
    refine zV_callV (E' := eX7_worth (g_rmv 3)) (av := [.int (nI c)]) (st := [.int (nI (k_oth (S.1.2.1 c))), .int (nI (bitsTo (fun c => decide (k_now (S.1.2.1 c) < k_oth (S.1.2.1 c))) c))]) (b := 76) dX7_wrong_22 rfl (k_RX7_127 _) rfl ⟨by decide, by decide⟩ ⟨by decide, by decide⟩ (Or.inl rfl) rfl (Nat.le_of_ble_eq_true rfl) rfl rfl rfl (m_worth (c := c) hM.1 hw.1 hc) (fun r22 M22 z => ?_)
    obtain ⟨rfl, rfl⟩ := z
    show zV G (eX7_wrong (g_rmv 4)) (0, 0) 25 [(0, .ref 76), (1, .int (nI (bitsTo (fun c => decide (k_now (S.1.2.1 c) < k_oth (S.1.2.1 c))) c))), (2, .int (nI c))] [.int (nI (k_now (S.1.2.1 c))), .int (nI (k_oth (S.1.2.1 c))), .int (nI (bitsTo (fun c => decide (k_now (S.1.2.1 c) < k_oth (S.1.2.1 c))) c))] (mm I J t) _
    refine zN_icmp_le (tgt := 34) dX7_wrong_25 rfl rfl (by omega) (by omega) (fun h25 => ?_) (fun h25 => ?_)
    · refine zV_iconst (v := (nI 0)) dX7_wrong_34 rfl rfl ?_
      refine zA_ior (z := (nI (bitsTo (fun c => decide (k_now (S.1.2.1 c) < k_oth (S.1.2.1 c))) c))) dX7_wrong_35 rfl  (z_or0 _) ?_
      refine zV_istore_n (lv' := [(0, .ref 76), (1, .int (nI (bitsTo (fun c => decide (k_now (S.1.2.1 c) < k_oth (S.1.2.1 c))) c))), (2, .int (nI c))]) dX7_wrong_36 rfl rfl (by decide) rfl ?_
      refine zV_iinc (y := (nI (c + 1))) (lv' := [(0, .ref 76), (1, .int (nI (bitsTo (fun c => decide (k_now (S.1.2.1 c) < k_oth (S.1.2.1 c))) c))), (2, .int (nI (c + 1)))]) dX7_wrong_37 rfl 2 rfl (nI_1 _) (by decide) rfl ?_
      refine zV_goto (tgt := 4) dX7_wrong_40 rfl ?_
      rw [show bitsTo (fun c => decide (k_now (S.1.2.1 c) < k_oth (S.1.2.1 c))) (c + 1) = (bitsTo (fun c => decide (k_now (S.1.2.1 c) < k_oth (S.1.2.1 c))) c) by simp [bitsTo, show (¬ k_now (S.1.2.1 c) < k_oth (S.1.2.1 c)) by omega]] at ih
      exact ih
    · refine zV_iconst (v := (nI 1)) dX7_wrong_28 rfl rfl ?_
      refine zV_iload_n dX7_wrong_29 rfl 2 rfl rfl ?_
      refine zA_ishl (z := (nI (2 ^ c))) dX7_wrong_30 rfl  (z_shl1 (by omega)) ?_
      refine zV_goto (tgt := 35) dX7_wrong_31 rfl ?_
      refine zA_ior (z := (nI ((bitsTo (fun c => decide (k_now (S.1.2.1 c) < k_oth (S.1.2.1 c))) c) + (2 ^ c)))) dX7_wrong_35 rfl  (z_or (bitsTo_lt _ _)) ?_
      refine zV_istore_n (lv' := [(0, .ref 76), (1, .int (nI ((bitsTo (fun c => decide (k_now (S.1.2.1 c) < k_oth (S.1.2.1 c))) c) + (2 ^ c)))), (2, .int (nI c))]) dX7_wrong_36 rfl rfl (by decide) rfl ?_
      refine zV_iinc (y := (nI (c + 1))) (lv' := [(0, .ref 76), (1, .int (nI ((bitsTo (fun c => decide (k_now (S.1.2.1 c) < k_oth (S.1.2.1 c))) c) + (2 ^ c)))), (2, .int (nI (c + 1)))]) dX7_wrong_37 rfl 2 rfl (nI_1 _) (by decide) rfl ?_
      refine zV_goto (tgt := 4) dX7_wrong_40 rfl ?_
      rw [show bitsTo (fun c => decide (k_now (S.1.2.1 c) < k_oth (S.1.2.1 c))) (c + 1) = ((bitsTo (fun c => decide (k_now (S.1.2.1 c) < k_oth (S.1.2.1 c))) c) + (2 ^ c)) by simp [bitsTo, show (k_now (S.1.2.1 c) < k_oth (S.1.2.1 c)) by omega]] at ih
      exact ih

set_option maxRecDepth 100000 in
theorem p_kindFor {G : mG} {I : Nat → Nat → Int32} {J : Nat → Nat → Int64} {t : Nat} {B : Nat} {S : aS} (hC : InvC I S) (hw : wfS B S) {x : Int32} : zC G yX6_kindFor (eX6_kindFor (g_rmv 3)) [.ref 0, .int x] (mm I J t) (fun r M => PC I (op_kindFor S x) r M) := by
  refine zC_of (by decide +kernel) rfl (by decide) (Nat.le_of_ble_eq_true rfl) ?_
  have n10 := hw.1.1
  show zV G (eX6_kindFor (g_rmv 3)) (0, 0) 0 [(0, .ref 0), (1, .int x)] [] (mm I J t) _
  refine zV_aload_n dX6_kindFor_0 rfl 0 rfl rfl ?_
  refine zV_getr (q' := 1) 0 dX6_kindFor_1 rfl fl_RX6_12 rfl (by decide) rfl rfl ?_
  refine zV_iload_n dX6_kindFor_4 rfl 1 rfl rfl ?_
  refine zV_callV (E' := eX1_hasCoin (g_rmv 0)) (av := [.int x]) (st := []) (b := 1) dX6_kindFor_5 rfl (k_RX6_82 _) rfl ⟨by decide, by decide⟩ ⟨by decide, by decide⟩ (Or.inl rfl) rfl (Nat.le_of_ble_eq_true rfl) (sh_land (Or.inl rfl)) rfl rfl (c_hasCoin (x := x) (Or.inl rfl) hC.1 hw.1) (fun r5 M5 z => ?_)
  obtain ⟨rfl, rfl⟩ := z
  show zV G (eX6_kindFor (g_rmv 3)) (0, 0) 8 [(0, .ref 0), (1, .int x)] [.int (b2 (hasC S.1.1 x))] (mm I J t) _
  refine zB_if_ne (tgt := 18) dX6_kindFor_8 rfl rfl  (fun h8 => ?_) (fun h8 => ?_)
  · obtain ⟨c, hc, rfl⟩ := z_has n10 h8
    have w := hw.1.2.1 c hc
    obtain ⟨w0, w1, w2, w3, w4, w5, w6⟩ := id w
    refine zV_aload_n dX6_kindFor_18 rfl 0 rfl rfl ?_
    refine zV_getr (q' := 1) 0 dX6_kindFor_19 rfl fl_RX6_12 rfl (by decide) rfl rfl ?_
    refine zV_getrX (q' := (1 + 1)) 0 dX6_kindFor_22 rfl fl_RX6_86 (sh_land (Or.inl rfl)) (by decide) rfl (R_coins (Or.inl rfl)) ?_
    refine zV_iload_n dX6_kindFor_25 rfl 1 rfl rfl ?_
    refine zV_aaload (q' := (1 + 3 + c)) c dX6_kindFor_26 rfl (sh_coins (Or.inl rfl)) rfl (by decide) rfl (by omega) (by decide) (R_coin (Or.inl rfl) (by omega)) ?_
    refine zV_astore_n (lv' := [(0, .ref 0), (1, .int (nI c)), (2, .ref (1 + 3 + c))]) dX6_kindFor_27 rfl rfl (by decide) rfl ?_
    refine zV_iconst (v := (nI 0)) dX6_kindFor_28 rfl rfl ?_
    refine zV_istore_n (lv' := [(0, .ref 0), (1, .int (nI c)), (2, .ref (1 + 3 + c)), (3, .int (nI 0))]) dX6_kindFor_29 rfl rfl (by decide) rfl ?_
    refine zV_iconst (v := (nI 1)) dX6_kindFor_30 rfl rfl ?_
    refine zV_istore (lv' := [(0, .ref 0), (1, .int (nI c)), (2, .ref (1 + 3 + c)), (3, .int (nI 0)), (4, .int (nI 1))]) dX6_kindFor_31 rfl (by decide) rfl ?_
    refine z_for (fun j => zV G (eX6_kindFor (g_rmv 3)) (0, 0) 33 [(0, .ref 0), (1, .int (nI c)), (2, .ref (1 + 3 + c)), (3, .int (nI (k_best (S.1.2.1 c) j))), (4, .int (nI (j + 1)))] [] (mm I J t) _) 6 ?_ ?_ 0 (Nat.zero_le _)
    · skip
      refine zV_iload dX6_kindFor_33 rfl 4 rfl ?_
      refine zV_bipush (v := (nI 7)) dX6_kindFor_35 rfl rfl ?_
      refine zN_icmp_ge (tgt := 63) dX6_kindFor_37 rfl rfl (by omega) (by omega) (fun _ => ?_) (fun z => absurd z (by omega))
      refine zV_iload_n dX6_kindFor_63 rfl 3 rfl rfl ?_
      exact zV_ireturn dX6_kindFor_64 rfl rfl (PC.same hC hw (by unfold op_kindFor; rw [if_pos h8, tn_nI (show c < 2 ^ 31 by omega)]) (fun _ _ => rfl))
    · intro j hj ih
      have kl := k_best_le (S.1.2.1 c) j
      have b1 := k_wIf_le w (j + 1) (S.1.2.1 c 4) (S.1.2.1 c 5) (S.1.2.1 c 1)
      have b2 := k_wIf_le w (k_best (S.1.2.1 c) j) (S.1.2.1 c 4) (S.1.2.1 c 5) (S.1.2.1 c 1)
      have b3 : k_as (S.1.2.1 c) (j + 1) ≤ 100 := b1
      have b4 : k_as (S.1.2.1 c) (k_best (S.1.2.1 c) j) ≤ 100 := b2
      refine zV_iload dX6_kindFor_33 rfl 4 rfl ?_
      refine zV_bipush (v := (nI 7)) dX6_kindFor_35 rfl rfl ?_
      refine zN_icmp_ge (tgt := 63) dX6_kindFor_37 rfl rfl (by omega) (by omega) (fun z => absurd z (by omega)) (fun _ => ?_)
      refine zV_aload_n dX6_kindFor_40 rfl 2 rfl rfl ?_
      refine zV_iload dX6_kindFor_41 rfl 4 rfl ?_
      refine zV_callV (E' := eX0_worthAs (g_rmv 2)) (av := [.int (nI (j + 1))]) (st := []) (b := (1 + 3 + c)) dX6_kindFor_43 rfl (k_RX6_224 _) rfl ⟨by decide, by decide⟩ ⟨by decide, by decide⟩ (Or.inl rfl) rfl (Nat.le_of_ble_eq_true rfl) (sh_coin (Or.inl rfl) (by omega)) rfl rfl (c_worthAs (kd := (j + 1)) (sh_coin (Or.inl rfl) (by omega)) (hC.1.2.1 c hc) (hw.1.2.1 c hc) (by omega)) (fun r43 M43 z => ?_)
      obtain ⟨rfl, rfl⟩ := z
      show zV G (eX6_kindFor (g_rmv 3)) (0, 0) 46 [(0, .ref 0), (1, .int (nI c)), (2, .ref (1 + 3 + c)), (3, .int (nI (k_best (S.1.2.1 c) j))), (4, .int (nI (j + 1)))] [.int (nI (k_as (S.1.2.1 c) (j + 1)))] (mm I J t) _
      refine zV_aload_n dX6_kindFor_46 rfl 2 rfl rfl ?_
      refine zV_iload_n dX6_kindFor_47 rfl 3 rfl rfl ?_
      refine zV_callV (E' := eX0_worthAs (g_rmv 2)) (av := [.int (nI (k_best (S.1.2.1 c) j))]) (st := [.int (nI (k_as (S.1.2.1 c) (j + 1)))]) (b := (1 + 3 + c)) dX6_kindFor_48 rfl (k_RX6_224 _) rfl ⟨by decide, by decide⟩ ⟨by decide, by decide⟩ (Or.inl rfl) rfl (Nat.le_of_ble_eq_true rfl) (sh_coin (Or.inl rfl) (by omega)) rfl rfl (c_worthAs (kd := (k_best (S.1.2.1 c) j)) (sh_coin (Or.inl rfl) (by omega)) (hC.1.2.1 c hc) (hw.1.2.1 c hc) (by omega)) (fun r48 M48 z => ?_)
      obtain ⟨rfl, rfl⟩ := z
      show zV G (eX6_kindFor (g_rmv 3)) (0, 0) 51 [(0, .ref 0), (1, .int (nI c)), (2, .ref (1 + 3 + c)), (3, .int (nI (k_best (S.1.2.1 c) j))), (4, .int (nI (j + 1)))] [.int (nI (k_as (S.1.2.1 c) (k_best (S.1.2.1 c) j))), .int (nI (k_as (S.1.2.1 c) (j + 1)))] (mm I J t) _
      refine zN_icmp_le (tgt := 57) dX6_kindFor_51 rfl rfl (by omega) (by omega) (fun h51 => ?_) (fun h51 => ?_)
      · refine zV_iinc (y := (nI ((j + 1) + 1))) (lv' := [(0, .ref 0), (1, .int (nI c)), (2, .ref (1 + 3 + c)), (3, .int (nI (k_best (S.1.2.1 c) j))), (4, .int (nI ((j + 1) + 1)))]) dX6_kindFor_57 rfl 4 rfl (nI_1 _) (by decide) rfl ?_
        refine zV_goto (tgt := 33) dX6_kindFor_60 rfl ?_
        rw [show k_best (S.1.2.1 c) (j + 1) = (k_best (S.1.2.1 c) j) by rw [k_best]; rw [if_neg (by omega)]] at ih
        exact ih
      · refine zV_iload dX6_kindFor_54 rfl 4 rfl ?_
        refine zV_istore_n (lv' := [(0, .ref 0), (1, .int (nI c)), (2, .ref (1 + 3 + c)), (3, .int (nI (j + 1))), (4, .int (nI (j + 1)))]) dX6_kindFor_56 rfl rfl (by decide) rfl ?_
        refine zV_iinc (y := (nI ((j + 1) + 1))) (lv' := [(0, .ref 0), (1, .int (nI c)), (2, .ref (1 + 3 + c)), (3, .int (nI (j + 1))), (4, .int (nI ((j + 1) + 1)))]) dX6_kindFor_57 rfl 4 rfl (nI_1 _) (by decide) rfl ?_
        refine zV_goto (tgt := 33) dX6_kindFor_60 rfl ?_
        rw [show k_best (S.1.2.1 c) (j + 1) = (j + 1) by rw [k_best]; rw [if_pos (by omega)]] at ih
        exact ih
  · refine zV_aload_n dX6_kindFor_11 rfl 0 rfl rfl ?_
    refine zV_ldc (v := (-1000001)) dX6_kindFor_12 rfl tw264 ?_
    refine zV_callV (E' := eX6_tell (g_rmv 1)) (av := [.int (-1000001)]) (st := []) (b := 0) dX6_kindFor_14 rfl (k_RX6_70 _) rfl ⟨by decide, by decide⟩ ⟨by decide, by decide⟩ (Or.inl rfl) rfl (Nat.le_of_ble_eq_true rfl) rfl rfl rfl (c_tell (w := 0) (by decide) (by decide)) (fun r14 M14 z => ?_)
    obtain ⟨rfl, rfl⟩ := z
    show zV G (eX6_kindFor (g_rmv 3)) (0, 0) 17 [(0, .ref 0), (1, .int x)] [.int (fdg 0)] (mm (up2 I 67 0 (I 67 0 + nI 1)) J t) _
    exact zV_ireturn dX6_kindFor_17 rfl rfl (PC.tell hC hw (by unfold op_kindFor; rw [if_neg h8]) (fun _ _ => rfl))

theorem c_maxm {G : mG} {I : Nat → Nat → Int32} {J : Nat → Nat → Int64} {t : Nat} {b : Nat} (hb : b < 2 ^ 31) : zC G yJ9_max_7cf53 (eJ9_max_7cf53 (g_rmv 0)) [.int (-1), .int (nI b)] (mm I J t) (fun r M => r = some (.int (nI b)) ∧ M = mm I J t) :=
  zC_mono (fun r M h => ⟨by
    rw [h.1, if_neg]
    intro z
    have z1 := Int32.le_iff_toInt_le.mp z
    rw [nI_toInt hb, show (-1 : Int32).toInt = -1 from rfl] at z1
    omega, h.2⟩) c_max
set_option maxRecDepth 100000 in
theorem q_kindFor {G : mG} {I : Nat → Nat → Int32} {J : Nat → Nat → Int64} {t : Nat} {B : Nat} {S : aS} (hM : InvM I S) (hw : wfS B S) {x : Int32} : zC G yX7_kindFor (eX7_kindFor (g_rmv 3)) [.ref 76, .int x] (mm I J t) (fun r M => PM I (op_kindFor S x) r M) := by
  refine zC_of (by decide +kernel) rfl (by decide) (Nat.le_of_ble_eq_true rfl) ?_
  have n10 := hw.1.1
  show zV G (eX7_kindFor (g_rmv 3)) (0, 0) 0 [(0, .ref 76), (1, .int x)] [] (mm I J t) _
  refine zV_aload_n dX7_kindFor_0 rfl 0 rfl rfl ?_
  refine zV_iload_n dX7_kindFor_1 rfl 1 rfl rfl ?_
  refine zV_callV (E' := eX7_isCoin (g_rmv 1)) (av := [.int x]) (st := []) (b := 76) dX7_kindFor_2 rfl (k_RX7_124 _) rfl ⟨by decide, by decide⟩ ⟨by decide, by decide⟩ (Or.inl rfl) rfl (Nat.le_of_ble_eq_true rfl) rfl rfl rfl (m_isCoin (x := x) hM.1 hw.1) (fun r2 M2 z => ?_)
  obtain ⟨rfl, rfl⟩ := z
  show zV G (eX7_kindFor (g_rmv 3)) (0, 0) 5 [(0, .ref 76), (1, .int x)] [.int (b2 (hasC S.1.1 x))] (mm I J t) _
  refine zB_if_ne (tgt := 15) dX7_kindFor_5 rfl rfl  (fun h5 => ?_) (fun h5 => ?_)
  · obtain ⟨c, hc, rfl⟩ := z_has n10 h5
    have w := hw.1.2.1 c hc
    obtain ⟨w0, w1, w2, w3, w4, w5, w6⟩ := id w
    have b0 := k_wIf_le w 0 (S.1.2.1 c 4) (S.1.2.1 c 5) (S.1.2.1 c 1)
    refine zV_iconst (v := (nI 0)) dX7_kindFor_15 rfl rfl ?_
    refine zV_istore_n (lv' := [(0, .ref 76), (1, .int (nI c)), (2, .int (nI 0))]) dX7_kindFor_16 rfl rfl (by decide) rfl ?_
    refine zV_iconst (v := (-1)) dX7_kindFor_17 rfl rfl ?_
    refine zV_istore_n (lv' := [(0, .ref 76), (1, .int (nI c)), (2, .int (nI 0)), (3, .int (-1))]) dX7_kindFor_18 rfl rfl (by decide) rfl ?_
    refine zV_iconst (v := (nI 0)) dX7_kindFor_19 rfl rfl ?_
    refine zV_istore (lv' := [(0, .ref 76), (1, .int (nI c)), (2, .int (nI 0)), (3, .int (-1)), (4, .int (nI 0))]) dX7_kindFor_20 rfl (by decide) rfl ?_
    refine zV_iload dX7_kindFor_22 rfl 4 rfl ?_
    refine zV_bipush (v := (nI 6)) dX7_kindFor_24 rfl rfl ?_
    refine zN_icmp_gt (tgt := 82) dX7_kindFor_26 rfl rfl (by decide) (by decide) (fun z => absurd z (by decide)) (fun _ => ?_)
    refine zV_aload_n dX7_kindFor_29 rfl 0 rfl rfl ?_
    refine zV_iload_n dX7_kindFor_30 rfl 1 rfl rfl ?_
    refine zV_iload dX7_kindFor_31 rfl 4 rfl ?_
    refine zV_aload_n dX7_kindFor_33 rfl 0 rfl rfl ?_
    refine zV_iload_n dX7_kindFor_34 rfl 1 rfl rfl ?_
    refine zV_iconst (v := (nI 4)) dX7_kindFor_35 rfl rfl ?_
    refine zV_callV (E' := eX7_coinIs (g_rmv 1)) (av := [.int (nI c), .int (nI 4)]) (st := [.int (nI 0), .int (nI c), .ref 76]) (b := 76) dX7_kindFor_36 rfl (k_RX7_99 _) rfl ⟨by decide, by decide⟩ ⟨by decide, by decide⟩ (Or.inl rfl) rfl (Nat.le_of_ble_eq_true rfl) rfl rfl rfl (m_coinIs (c := c) (f := 4) hM.1 hw.1 hc (by decide)) (fun r36 M36 z => ?_)
    obtain ⟨rfl, rfl⟩ := z
    show zV G (eX7_kindFor (g_rmv 3)) (0, 0) 39 [(0, .ref 76), (1, .int (nI c)), (2, .int (nI 0)), (3, .int (-1)), (4, .int (nI 0))] [.int (nI (S.1.2.1 c 4)), .int (nI 0), .int (nI c), .ref 76] (mm I J t) _
    refine zV_aload_n dX7_kindFor_39 rfl 0 rfl rfl ?_
    refine zV_iload_n dX7_kindFor_40 rfl 1 rfl rfl ?_
    refine zV_iconst (v := (nI 5)) dX7_kindFor_41 rfl rfl ?_
    refine zV_callV (E' := eX7_coinIs (g_rmv 1)) (av := [.int (nI c), .int (nI 5)]) (st := [.int (nI (S.1.2.1 c 4)), .int (nI 0), .int (nI c), .ref 76]) (b := 76) dX7_kindFor_42 rfl (k_RX7_99 _) rfl ⟨by decide, by decide⟩ ⟨by decide, by decide⟩ (Or.inl rfl) rfl (Nat.le_of_ble_eq_true rfl) rfl rfl rfl (m_coinIs (c := c) (f := 5) hM.1 hw.1 hc (by decide)) (fun r42 M42 z => ?_)
    obtain ⟨rfl, rfl⟩ := z
    show zV G (eX7_kindFor (g_rmv 3)) (0, 0) 45 [(0, .ref 76), (1, .int (nI c)), (2, .int (nI 0)), (3, .int (-1)), (4, .int (nI 0))] [.int (nI (S.1.2.1 c 5)), .int (nI (S.1.2.1 c 4)), .int (nI 0), .int (nI c), .ref 76] (mm I J t) _
    refine zV_aload_n dX7_kindFor_45 rfl 0 rfl rfl ?_
    refine zV_iload_n dX7_kindFor_46 rfl 1 rfl rfl ?_
    refine zV_iconst (v := (nI 1)) dX7_kindFor_47 rfl rfl ?_
    refine zV_callV (E' := eX7_coinIs (g_rmv 1)) (av := [.int (nI c), .int (nI 1)]) (st := [.int (nI (S.1.2.1 c 5)), .int (nI (S.1.2.1 c 4)), .int (nI 0), .int (nI c), .ref 76]) (b := 76) dX7_kindFor_48 rfl (k_RX7_99 _) rfl ⟨by decide, by decide⟩ ⟨by decide, by decide⟩ (Or.inl rfl) rfl (Nat.le_of_ble_eq_true rfl) rfl rfl rfl (m_coinIs (c := c) (f := 1) hM.1 hw.1 hc (by decide)) (fun r48 M48 z => ?_)
    obtain ⟨rfl, rfl⟩ := z
    show zV G (eX7_kindFor (g_rmv 3)) (0, 0) 51 [(0, .ref 76), (1, .int (nI c)), (2, .int (nI 0)), (3, .int (-1)), (4, .int (nI 0))] [.int (nI (S.1.2.1 c 1)), .int (nI (S.1.2.1 c 5)), .int (nI (S.1.2.1 c 4)), .int (nI 0), .int (nI c), .ref 76] (mm I J t) _
    refine zV_callV (E' := eX7_worthSo (g_rmv 2)) (av := [.int (nI c), .int (nI 0), .int (nI (S.1.2.1 c 4)), .int (nI (S.1.2.1 c 5)), .int (nI (S.1.2.1 c 1))]) (st := []) (b := 76) dX7_kindFor_51 rfl (k_RX7_107 _) rfl ⟨by decide, by decide⟩ ⟨by decide, by decide⟩ (Or.inl rfl) rfl (Nat.le_of_ble_eq_true rfl) rfl rfl rfl (m_worthSo (c := c) (kd := 0) (sd := (S.1.2.1 c 4)) (tu := (S.1.2.1 c 5)) (wh := (S.1.2.1 c 1)) hM.1 hw.1 hc (by omega) (by omega) (by omega) (by omega)) (fun r51 M51 z => ?_)
    obtain ⟨rfl, rfl⟩ := z
    show zV G (eX7_kindFor (g_rmv 3)) (0, 0) 54 [(0, .ref 76), (1, .int (nI c)), (2, .int (nI 0)), (3, .int (-1)), (4, .int (nI 0))] [.int (nI (k_wIf (S.1.2.1 c) 0 (S.1.2.1 c 4) (S.1.2.1 c 5) (S.1.2.1 c 1)))] (mm I J t) _
    refine zV_istore (lv' := [(0, .ref 76), (1, .int (nI c)), (2, .int (nI 0)), (3, .int (-1)), (4, .int (nI 0)), (5, .int (nI (k_wIf (S.1.2.1 c) 0 (S.1.2.1 c 4) (S.1.2.1 c 5) (S.1.2.1 c 1))))]) dX7_kindFor_54 rfl (by decide) rfl ?_
    refine zV_iload dX7_kindFor_56 rfl 5 rfl ?_
    refine zV_iload_n dX7_kindFor_58 rfl 3 rfl rfl ?_
    refine zV_icmp_le (tgt := 67) dX7_kindFor_59 rfl rfl  (fun z => absurd z (fun z => by have z1 := Int32.le_iff_toInt_le.mp z; rw [nI_toInt (by omega), show (-1 : Int32).toInt = -1 from rfl] at z1; omega)) (fun _ => ?_)
    refine zV_iload dX7_kindFor_62 rfl 4 rfl ?_
    refine zV_goto (tgt := 68) dX7_kindFor_64 rfl ?_
    refine zV_istore_n (lv' := [(0, .ref 76), (1, .int (nI c)), (2, .int (nI 0)), (3, .int (-1)), (4, .int (nI 0)), (5, .int (nI (k_wIf (S.1.2.1 c) 0 (S.1.2.1 c 4) (S.1.2.1 c 5) (S.1.2.1 c 1))))]) dX7_kindFor_68 rfl rfl (by decide) rfl ?_
    refine zV_iload_n dX7_kindFor_69 rfl 3 rfl rfl ?_
    refine zV_iload dX7_kindFor_70 rfl 5 rfl ?_
    refine zV_callS (E' := eJ9_max_7cf53 (g_rmv 0)) (av := [.int (-1), .int (nI (k_wIf (S.1.2.1 c) 0 (S.1.2.1 c 4) (S.1.2.1 c 5) (S.1.2.1 c 1)))]) (st := []) dX7_kindFor_72 rfl (k_RX7_102 _) rfl ⟨by decide, by decide⟩ ⟨by decide, by decide⟩ (Or.inl rfl) rfl (Nat.le_of_ble_eq_true rfl) (c_maxm (b := (k_wIf (S.1.2.1 c) 0 (S.1.2.1 c 4) (S.1.2.1 c 5) (S.1.2.1 c 1))) (by omega)) (fun r72 M72 z => ?_)
    obtain ⟨rfl, rfl⟩ := z
    show zV G (eX7_kindFor (g_rmv 3)) (0, 0) 75 [(0, .ref 76), (1, .int (nI c)), (2, .int (nI 0)), (3, .int (-1)), (4, .int (nI 0)), (5, .int (nI (k_wIf (S.1.2.1 c) 0 (S.1.2.1 c 4) (S.1.2.1 c 5) (S.1.2.1 c 1))))] [.int (nI (k_wIf (S.1.2.1 c) 0 (S.1.2.1 c 4) (S.1.2.1 c 5) (S.1.2.1 c 1)))] (mm I J t) _
    refine zV_istore_n (lv' := [(0, .ref 76), (1, .int (nI c)), (2, .int (nI 0)), (3, .int (nI (k_wIf (S.1.2.1 c) 0 (S.1.2.1 c 4) (S.1.2.1 c 5) (S.1.2.1 c 1)))), (4, .int (nI 0)), (5, .int (nI (k_wIf (S.1.2.1 c) 0 (S.1.2.1 c 4) (S.1.2.1 c 5) (S.1.2.1 c 1))))]) dX7_kindFor_75 rfl rfl (by decide) rfl ?_
    refine zV_iinc (y := (nI 1)) (lv' := [(0, .ref 76), (1, .int (nI c)), (2, .int (nI 0)), (3, .int (nI (k_wIf (S.1.2.1 c) 0 (S.1.2.1 c 4) (S.1.2.1 c 5) (S.1.2.1 c 1)))), (4, .int (nI 1)), (5, .int (nI (k_wIf (S.1.2.1 c) 0 (S.1.2.1 c 4) (S.1.2.1 c 5) (S.1.2.1 c 1))))]) dX7_kindFor_76 rfl 4 rfl (rfl) (by decide) rfl ?_
    refine zV_goto (tgt := 22) dX7_kindFor_79 rfl ?_
    refine zV_keep (lv' := [(0, .ref 76), (1, .int (nI c)), (2, .int (nI 0)), (3, .int (nI (k_wIf (S.1.2.1 c) 0 (S.1.2.1 c 4) (S.1.2.1 c 5) (S.1.2.1 c 1)))), (4, .int (nI 1))]) [0, 1, 2, 3, 4] rfl ?_
    refine z_for (fun j => zV G (eX7_kindFor (g_rmv 3)) (0, 0) 22 [(0, .ref 76), (1, .int (nI c)), (2, .int (nI (k_best (S.1.2.1 c) j))), (3, .int (nI (k_as (S.1.2.1 c) (k_best (S.1.2.1 c) j)))), (4, .int (nI (j + 1)))] [] (mm I J t) _) 6 ?_ ?_ 0 (Nat.zero_le _)
    · skip
      refine zV_iload dX7_kindFor_22 rfl 4 rfl ?_
      refine zV_bipush (v := (nI 6)) dX7_kindFor_24 rfl rfl ?_
      refine zN_icmp_gt (tgt := 82) dX7_kindFor_26 rfl rfl (by omega) (by omega) (fun _ => ?_) (fun z => absurd z (by omega))
      refine zV_iload_n dX7_kindFor_82 rfl 2 rfl rfl ?_
      exact zV_ireturn dX7_kindFor_83 rfl rfl (PM.same hM (by unfold op_kindFor; rw [if_pos h5, tn_nI (show c < 2 ^ 31 by omega)]) scM.rf)
    · intro j hj ih
      have kl := k_best_le (S.1.2.1 c) j
      have b1 := k_wIf_le w (j + 1) (S.1.2.1 c 4) (S.1.2.1 c 5) (S.1.2.1 c 1)
      have b2 := k_wIf_le w (k_best (S.1.2.1 c) j) (S.1.2.1 c 4) (S.1.2.1 c 5) (S.1.2.1 c 1)
      have b3 : k_as (S.1.2.1 c) (j + 1) ≤ 100 := b1
      have b4 : k_as (S.1.2.1 c) (k_best (S.1.2.1 c) j) ≤ 100 := b2
      refine zV_iload dX7_kindFor_22 rfl 4 rfl ?_
      refine zV_bipush (v := (nI 6)) dX7_kindFor_24 rfl rfl ?_
      refine zN_icmp_gt (tgt := 82) dX7_kindFor_26 rfl rfl (by omega) (by omega) (fun z => absurd z (by omega)) (fun _ => ?_)
      refine zV_aload_n dX7_kindFor_29 rfl 0 rfl rfl ?_
      refine zV_iload_n dX7_kindFor_30 rfl 1 rfl rfl ?_
      refine zV_iload dX7_kindFor_31 rfl 4 rfl ?_
      refine zV_aload_n dX7_kindFor_33 rfl 0 rfl rfl ?_
      refine zV_iload_n dX7_kindFor_34 rfl 1 rfl rfl ?_
      refine zV_iconst (v := (nI 4)) dX7_kindFor_35 rfl rfl ?_
      refine zV_callV (E' := eX7_coinIs (g_rmv 1)) (av := [.int (nI c), .int (nI 4)]) (st := [.int (nI (j + 1)), .int (nI c), .ref 76]) (b := 76) dX7_kindFor_36 rfl (k_RX7_99 _) rfl ⟨by decide, by decide⟩ ⟨by decide, by decide⟩ (Or.inl rfl) rfl (Nat.le_of_ble_eq_true rfl) rfl rfl rfl (m_coinIs (c := c) (f := 4) hM.1 hw.1 hc (by decide)) (fun r36 M36 z => ?_)
      obtain ⟨rfl, rfl⟩ := z
      show zV G (eX7_kindFor (g_rmv 3)) (0, 0) 39 [(0, .ref 76), (1, .int (nI c)), (2, .int (nI (k_best (S.1.2.1 c) j))), (3, .int (nI (k_as (S.1.2.1 c) (k_best (S.1.2.1 c) j)))), (4, .int (nI (j + 1)))] [.int (nI (S.1.2.1 c 4)), .int (nI (j + 1)), .int (nI c), .ref 76] (mm I J t) _
      refine zV_aload_n dX7_kindFor_39 rfl 0 rfl rfl ?_
      refine zV_iload_n dX7_kindFor_40 rfl 1 rfl rfl ?_
      refine zV_iconst (v := (nI 5)) dX7_kindFor_41 rfl rfl ?_
      refine zV_callV (E' := eX7_coinIs (g_rmv 1)) (av := [.int (nI c), .int (nI 5)]) (st := [.int (nI (S.1.2.1 c 4)), .int (nI (j + 1)), .int (nI c), .ref 76]) (b := 76) dX7_kindFor_42 rfl (k_RX7_99 _) rfl ⟨by decide, by decide⟩ ⟨by decide, by decide⟩ (Or.inl rfl) rfl (Nat.le_of_ble_eq_true rfl) rfl rfl rfl (m_coinIs (c := c) (f := 5) hM.1 hw.1 hc (by decide)) (fun r42 M42 z => ?_)
      obtain ⟨rfl, rfl⟩ := z
      show zV G (eX7_kindFor (g_rmv 3)) (0, 0) 45 [(0, .ref 76), (1, .int (nI c)), (2, .int (nI (k_best (S.1.2.1 c) j))), (3, .int (nI (k_as (S.1.2.1 c) (k_best (S.1.2.1 c) j)))), (4, .int (nI (j + 1)))] [.int (nI (S.1.2.1 c 5)), .int (nI (S.1.2.1 c 4)), .int (nI (j + 1)), .int (nI c), .ref 76] (mm I J t) _
      refine zV_aload_n dX7_kindFor_45 rfl 0 rfl rfl ?_
      refine zV_iload_n dX7_kindFor_46 rfl 1 rfl rfl ?_
      refine zV_iconst (v := (nI 1)) dX7_kindFor_47 rfl rfl ?_
      refine zV_callV (E' := eX7_coinIs (g_rmv 1)) (av := [.int (nI c), .int (nI 1)]) (st := [.int (nI (S.1.2.1 c 5)), .int (nI (S.1.2.1 c 4)), .int (nI (j + 1)), .int (nI c), .ref 76]) (b := 76) dX7_kindFor_48 rfl (k_RX7_99 _) rfl ⟨by decide, by decide⟩ ⟨by decide, by decide⟩ (Or.inl rfl) rfl (Nat.le_of_ble_eq_true rfl) rfl rfl rfl (m_coinIs (c := c) (f := 1) hM.1 hw.1 hc (by decide)) (fun r48 M48 z => ?_)
      obtain ⟨rfl, rfl⟩ := z
      show zV G (eX7_kindFor (g_rmv 3)) (0, 0) 51 [(0, .ref 76), (1, .int (nI c)), (2, .int (nI (k_best (S.1.2.1 c) j))), (3, .int (nI (k_as (S.1.2.1 c) (k_best (S.1.2.1 c) j)))), (4, .int (nI (j + 1)))] [.int (nI (S.1.2.1 c 1)), .int (nI (S.1.2.1 c 5)), .int (nI (S.1.2.1 c 4)), .int (nI (j + 1)), .int (nI c), .ref 76] (mm I J t) _
      refine zV_callV (E' := eX7_worthSo (g_rmv 2)) (av := [.int (nI c), .int (nI (j + 1)), .int (nI (S.1.2.1 c 4)), .int (nI (S.1.2.1 c 5)), .int (nI (S.1.2.1 c 1))]) (st := []) (b := 76) dX7_kindFor_51 rfl (k_RX7_107 _) rfl ⟨by decide, by decide⟩ ⟨by decide, by decide⟩ (Or.inl rfl) rfl (Nat.le_of_ble_eq_true rfl) rfl rfl rfl (m_worthSo (c := c) (kd := (j + 1)) (sd := (S.1.2.1 c 4)) (tu := (S.1.2.1 c 5)) (wh := (S.1.2.1 c 1)) hM.1 hw.1 hc (by omega) (by omega) (by omega) (by omega)) (fun r51 M51 z => ?_)
      obtain ⟨rfl, rfl⟩ := z
      show zV G (eX7_kindFor (g_rmv 3)) (0, 0) 54 [(0, .ref 76), (1, .int (nI c)), (2, .int (nI (k_best (S.1.2.1 c) j))), (3, .int (nI (k_as (S.1.2.1 c) (k_best (S.1.2.1 c) j)))), (4, .int (nI (j + 1)))] [.int (nI (k_wIf (S.1.2.1 c) (j + 1) (S.1.2.1 c 4) (S.1.2.1 c 5) (S.1.2.1 c 1)))] (mm I J t) _
      refine zV_istore (lv' := [(0, .ref 76), (1, .int (nI c)), (2, .int (nI (k_best (S.1.2.1 c) j))), (3, .int (nI (k_as (S.1.2.1 c) (k_best (S.1.2.1 c) j)))), (4, .int (nI (j + 1))), (5, .int (nI (k_wIf (S.1.2.1 c) (j + 1) (S.1.2.1 c 4) (S.1.2.1 c 5) (S.1.2.1 c 1))))]) dX7_kindFor_54 rfl (by decide) rfl ?_
      refine zV_iload dX7_kindFor_56 rfl 5 rfl ?_
      refine zV_iload_n dX7_kindFor_58 rfl 3 rfl rfl ?_
      refine zN_icmp_le (tgt := 67) dX7_kindFor_59 rfl rfl (by omega) (by omega) (fun h59 => ?_) (fun h59 => ?_)
      · refine zV_iload_n dX7_kindFor_67 rfl 2 rfl rfl ?_
        refine zV_istore_n (lv' := [(0, .ref 76), (1, .int (nI c)), (2, .int (nI (k_best (S.1.2.1 c) j))), (3, .int (nI (k_as (S.1.2.1 c) (k_best (S.1.2.1 c) j)))), (4, .int (nI (j + 1))), (5, .int (nI (k_wIf (S.1.2.1 c) (j + 1) (S.1.2.1 c 4) (S.1.2.1 c 5) (S.1.2.1 c 1))))]) dX7_kindFor_68 rfl rfl (by decide) rfl ?_
        refine zV_iload_n dX7_kindFor_69 rfl 3 rfl rfl ?_
        refine zV_iload dX7_kindFor_70 rfl 5 rfl ?_
        refine zV_callS (E' := eJ9_max_7cf53 (g_rmv 0)) (av := [.int (nI (k_as (S.1.2.1 c) (k_best (S.1.2.1 c) j))), .int (nI (k_wIf (S.1.2.1 c) (j + 1) (S.1.2.1 c 4) (S.1.2.1 c 5) (S.1.2.1 c 1)))]) (st := []) dX7_kindFor_72 rfl (k_RX7_102 _) rfl ⟨by decide, by decide⟩ ⟨by decide, by decide⟩ (Or.inl rfl) rfl (Nat.le_of_ble_eq_true rfl) (c_maxn (a := (k_as (S.1.2.1 c) (k_best (S.1.2.1 c) j))) (b := (k_wIf (S.1.2.1 c) (j + 1) (S.1.2.1 c 4) (S.1.2.1 c 5) (S.1.2.1 c 1))) (by omega) (by omega)) (fun r72 M72 z => ?_)
        obtain ⟨rfl, rfl⟩ := z
        show zV G (eX7_kindFor (g_rmv 3)) (0, 0) 75 [(0, .ref 76), (1, .int (nI c)), (2, .int (nI (k_best (S.1.2.1 c) j))), (3, .int (nI (k_as (S.1.2.1 c) (k_best (S.1.2.1 c) j)))), (4, .int (nI (j + 1))), (5, .int (nI (k_wIf (S.1.2.1 c) (j + 1) (S.1.2.1 c 4) (S.1.2.1 c 5) (S.1.2.1 c 1))))] [.int (nI (max (k_as (S.1.2.1 c) (k_best (S.1.2.1 c) j)) (k_wIf (S.1.2.1 c) (j + 1) (S.1.2.1 c 4) (S.1.2.1 c 5) (S.1.2.1 c 1))))] (mm I J t) _
        refine zV_istore_n (lv' := [(0, .ref 76), (1, .int (nI c)), (2, .int (nI (k_best (S.1.2.1 c) j))), (3, .int (nI (max (k_as (S.1.2.1 c) (k_best (S.1.2.1 c) j)) (k_wIf (S.1.2.1 c) (j + 1) (S.1.2.1 c 4) (S.1.2.1 c 5) (S.1.2.1 c 1))))), (4, .int (nI (j + 1))), (5, .int (nI (k_wIf (S.1.2.1 c) (j + 1) (S.1.2.1 c 4) (S.1.2.1 c 5) (S.1.2.1 c 1))))]) dX7_kindFor_75 rfl rfl (by decide) rfl ?_
        refine zV_iinc (y := (nI ((j + 1) + 1))) (lv' := [(0, .ref 76), (1, .int (nI c)), (2, .int (nI (k_best (S.1.2.1 c) j))), (3, .int (nI (max (k_as (S.1.2.1 c) (k_best (S.1.2.1 c) j)) (k_wIf (S.1.2.1 c) (j + 1) (S.1.2.1 c 4) (S.1.2.1 c 5) (S.1.2.1 c 1))))), (4, .int (nI ((j + 1) + 1))), (5, .int (nI (k_wIf (S.1.2.1 c) (j + 1) (S.1.2.1 c 4) (S.1.2.1 c 5) (S.1.2.1 c 1))))]) dX7_kindFor_76 rfl 4 rfl (nI_1 _) (by decide) rfl ?_
        refine zV_goto (tgt := 22) dX7_kindFor_79 rfl ?_
        refine zV_keep (lv' := [(0, .ref 76), (1, .int (nI c)), (2, .int (nI (k_best (S.1.2.1 c) j))), (3, .int (nI (max (k_as (S.1.2.1 c) (k_best (S.1.2.1 c) j)) (k_wIf (S.1.2.1 c) (j + 1) (S.1.2.1 c 4) (S.1.2.1 c 5) (S.1.2.1 c 1))))), (4, .int (nI ((j + 1) + 1)))]) [0, 1, 2, 3, 4] rfl ?_
        rw [show k_best (S.1.2.1 c) (j + 1) = (k_best (S.1.2.1 c) j) by rw [k_best]; rw [if_neg (Nat.not_lt.mpr (show k_as (S.1.2.1 c) (j + 1) ≤ k_as (S.1.2.1 c) (k_best (S.1.2.1 c) j) from h59))], show k_as (S.1.2.1 c) (k_best (S.1.2.1 c) j) = (max (k_as (S.1.2.1 c) (k_best (S.1.2.1 c) j)) (k_wIf (S.1.2.1 c) (j + 1) (S.1.2.1 c 4) (S.1.2.1 c 5) (S.1.2.1 c 1))) from ((Nat.max_eq_left h59).symm)] at ih
        exact ih
      · refine zV_iload dX7_kindFor_62 rfl 4 rfl ?_
        refine zV_goto (tgt := 68) dX7_kindFor_64 rfl ?_
        refine zV_istore_n (lv' := [(0, .ref 76), (1, .int (nI c)), (2, .int (nI (j + 1))), (3, .int (nI (k_as (S.1.2.1 c) (k_best (S.1.2.1 c) j)))), (4, .int (nI (j + 1))), (5, .int (nI (k_wIf (S.1.2.1 c) (j + 1) (S.1.2.1 c 4) (S.1.2.1 c 5) (S.1.2.1 c 1))))]) dX7_kindFor_68 rfl rfl (by decide) rfl ?_
        refine zV_iload_n dX7_kindFor_69 rfl 3 rfl rfl ?_
        refine zV_iload dX7_kindFor_70 rfl 5 rfl ?_
        refine zV_callS (E' := eJ9_max_7cf53 (g_rmv 0)) (av := [.int (nI (k_as (S.1.2.1 c) (k_best (S.1.2.1 c) j))), .int (nI (k_wIf (S.1.2.1 c) (j + 1) (S.1.2.1 c 4) (S.1.2.1 c 5) (S.1.2.1 c 1)))]) (st := []) dX7_kindFor_72 rfl (k_RX7_102 _) rfl ⟨by decide, by decide⟩ ⟨by decide, by decide⟩ (Or.inl rfl) rfl (Nat.le_of_ble_eq_true rfl) (c_maxn (a := (k_as (S.1.2.1 c) (k_best (S.1.2.1 c) j))) (b := (k_wIf (S.1.2.1 c) (j + 1) (S.1.2.1 c 4) (S.1.2.1 c 5) (S.1.2.1 c 1))) (by omega) (by omega)) (fun r72 M72 z => ?_)
        obtain ⟨rfl, rfl⟩ := z
        show zV G (eX7_kindFor (g_rmv 3)) (0, 0) 75 [(0, .ref 76), (1, .int (nI c)), (2, .int (nI (j + 1))), (3, .int (nI (k_as (S.1.2.1 c) (k_best (S.1.2.1 c) j)))), (4, .int (nI (j + 1))), (5, .int (nI (k_wIf (S.1.2.1 c) (j + 1) (S.1.2.1 c 4) (S.1.2.1 c 5) (S.1.2.1 c 1))))] [.int (nI (max (k_as (S.1.2.1 c) (k_best (S.1.2.1 c) j)) (k_wIf (S.1.2.1 c) (j + 1) (S.1.2.1 c 4) (S.1.2.1 c 5) (S.1.2.1 c 1))))] (mm I J t) _
        refine zV_istore_n (lv' := [(0, .ref 76), (1, .int (nI c)), (2, .int (nI (j + 1))), (3, .int (nI (max (k_as (S.1.2.1 c) (k_best (S.1.2.1 c) j)) (k_wIf (S.1.2.1 c) (j + 1) (S.1.2.1 c 4) (S.1.2.1 c 5) (S.1.2.1 c 1))))), (4, .int (nI (j + 1))), (5, .int (nI (k_wIf (S.1.2.1 c) (j + 1) (S.1.2.1 c 4) (S.1.2.1 c 5) (S.1.2.1 c 1))))]) dX7_kindFor_75 rfl rfl (by decide) rfl ?_
        refine zV_iinc (y := (nI ((j + 1) + 1))) (lv' := [(0, .ref 76), (1, .int (nI c)), (2, .int (nI (j + 1))), (3, .int (nI (max (k_as (S.1.2.1 c) (k_best (S.1.2.1 c) j)) (k_wIf (S.1.2.1 c) (j + 1) (S.1.2.1 c 4) (S.1.2.1 c 5) (S.1.2.1 c 1))))), (4, .int (nI ((j + 1) + 1))), (5, .int (nI (k_wIf (S.1.2.1 c) (j + 1) (S.1.2.1 c 4) (S.1.2.1 c 5) (S.1.2.1 c 1))))]) dX7_kindFor_76 rfl 4 rfl (nI_1 _) (by decide) rfl ?_
        refine zV_goto (tgt := 22) dX7_kindFor_79 rfl ?_
        refine zV_keep (lv' := [(0, .ref 76), (1, .int (nI c)), (2, .int (nI (j + 1))), (3, .int (nI (max (k_as (S.1.2.1 c) (k_best (S.1.2.1 c) j)) (k_wIf (S.1.2.1 c) (j + 1) (S.1.2.1 c 4) (S.1.2.1 c 5) (S.1.2.1 c 1))))), (4, .int (nI ((j + 1) + 1)))]) [0, 1, 2, 3, 4] rfl ?_
        rw [show k_best (S.1.2.1 c) (j + 1) = (j + 1) by rw [k_best]; rw [if_pos (show k_as (S.1.2.1 c) (k_best (S.1.2.1 c) j) < k_as (S.1.2.1 c) (j + 1) from h59)], show k_as (S.1.2.1 c) (j + 1) = (max (k_as (S.1.2.1 c) (k_best (S.1.2.1 c) j)) (k_wIf (S.1.2.1 c) (j + 1) (S.1.2.1 c 4) (S.1.2.1 c 5) (S.1.2.1 c 1))) from ((Nat.max_eq_right (Nat.le_of_lt h59)).symm)] at ih
        exact ih
  · refine zV_aload_n dX7_kindFor_8 rfl 0 rfl rfl ?_
    refine zV_ldc (v := (-1000001)) dX7_kindFor_9 rfl tw970 ?_
    refine zV_callV (E' := eX7_finding (g_rmv 0)) (av := [.int (-1000001)]) (st := []) (b := 76) dX7_kindFor_11 rfl (k_RX7_87 _) rfl ⟨by decide, by decide⟩ ⟨by decide, by decide⟩ (Or.inl rfl) rfl (Nat.le_of_ble_eq_true rfl) rfl rfl rfl (m_finding (w := 0) (by decide) (by decide)) (fun r11 M11 z => ?_)
    obtain ⟨rfl, rfl⟩ := z
    show zV G (eX7_kindFor (g_rmv 3)) (0, 0) 14 [(0, .ref 76), (1, .int x)] [.int (fdg 0)] (mm (mTell I 0) J t) _
    exact zV_ireturn dX7_kindFor_14 rfl rfl (PM.tell hM (by decide) (by unfold op_kindFor; rw [if_neg h5]) scM.rf)
