/-! round: both classes -/
theorem InvM.bk {I I1 : Nat → Nat → Int32} {B : Nat} {S : aS} (h : InvM I S) (hw : wfS B S) (hr : ∀ j, j < 73 → I1 77 j = I 77 j) (hf : ∀ i, i ≠ 77 → i ≠ 79 → i ≠ 81 → i ≠ 76 → I1 i = I i) (f3 : I1 76 3 = I 76 3) (f10 : I1 76 10 = I 76 10) : InvM I1 S := by
  obtain ⟨h1, h2, h3, h4, h5, h6, h7⟩ := h
  refine ⟨h1.cp hw.1.1 hr, f3.trans h2, fun k => (h3 k).mv (hf _ (by decide) (by decide) (by decide) (by decide)), f10.trans h4, ?_, ?_, ?_⟩
  · rw [hf _ (by decide) (by decide) (by decide) (by decide)]; exact h5
  · rw [hf _ (by decide) (by decide) (by decide) (by decide)]; exact h6
  · rw [hf _ (by decide) (by decide) (by decide) (by decide), hf _ (by decide) (by decide) (by decide) (by decide), hf _ (by decide) (by decide) (by decide) (by decide)]; exact h7
/-- the row was put aside and back, and a finding told -/
theorem PM.backT {I I1 : Nat → Nat → Int32} {J : Nat → Nat → Int64} {t B w : Nat} {S : aS} {o : Int32 × aS} (h : InvM I S) (hw : wfS B S) (h7 : w < 7) (e : o = fnd S w) (hr : ∀ j, j < 73 → I1 77 j = I 77 j) (hf : ∀ i, i ≠ 77 → i ≠ 79 → I1 i = I i) : PM I o (some (.int (fdg w))) (mm (mTell I1 w) J t) := by
  subst e
  have h2 : InvM I1 S := h.bk hw hr (fun i a b _ _ => hf i a b) (by rw [hf 76 (by decide) (by decide)]) (by rw [hf 76 (by decide) (by decide)])
  exact ⟨_, _, _, rfl, rfl, h2.tell h7, fun i hi => by
    rw [← hf i (by omega) (by omega)]
    funext k
    rw [mTell, up2_ni (by omega), up2_ni (by omega)]⟩
theorem rk_s1 {k : Nat → Nat} {q i : Nat} (h : ¬ i % 2 = 0) : rk k q (i + 1) = k_set (k_turn (rk k q i)) 1 (k 1) := by
  show k_pay (rk k q i) (if i % 2 = 0 then q else k 1) = _
  rw [if_neg h]
  rfl
theorem rk_s0 {k : Nat → Nat} {q i : Nat} (h : i % 2 = 0) : rk k q (i + 1) = k_set (k_turn (rk k q i)) 1 q := by
  show k_pay (rk k q i) (if i % 2 = 0 then q else k 1) = _
  rw [if_pos h]
  rfl
theorem twoP_mk {p q : Nat} (hp : p < 4) (hq : q < 4) (h : p ≠ q) : twoP (nI p) (nI q) :=
  ⟨⟨nI_pos' (by omega), nI_le (by omega) (by decide)⟩, ⟨nI_pos' (by omega), nI_le (by omega) (by decide)⟩, fun z => h (by
    have h1 := congrArg tn z
    rwa [tn_nI (by omega), tn_nI (by omega)] at h1)⟩
theorem ld_cset_self (σ : aL) (c : Nat) : ld_cset σ c (σ.2.1 c) = σ := by
  obtain ⟨n, k, r⟩ := σ
  unfold ld_cset
  have e : (fun c' => if c' = c then k c else k c') = k := by
    funext c'
    by_cases e : c' = c
    · rw [if_pos e, e]
    · rw [if_neg e]
  show (n, (fun c' => if c' = c then k c else k c'), r) = _
  rw [e]
set_option maxRecDepth 100000 in
theorem p_round {G : mG} {I : Nat → Nat → Int32} {J : Nat → Nat → Int64} {t : Nat} {B : Nat} {S : aS} (hC : InvC I S) (hw : wfS B S) (hB : B + 24 < 1000000) {x y : Int32} : zC G yX6_round (eX6_round (g_rmv 3)) [.ref 0, .int x, .int y] (mm I J t) (fun r M => PC I (op_round S x y) r M) := by
  refine zC_of (by decide +kernel) rfl (by decide) (Nat.le_of_ble_eq_true rfl) ?_
  have n10 := hw.1.1
  show zV G (eX6_round (g_rmv 3)) (0, 0) 0 [(0, .ref 0), (1, .int x), (2, .int y)] [] (mm I J t) _
  refine zV_aload_n dX6_round_0 rfl 0 rfl rfl ?_
  refine zV_getr (q' := 1) 0 dX6_round_1 rfl fl_RX6_12 rfl (by decide) rfl rfl ?_
  refine zV_iload_n dX6_round_4 rfl 1 rfl rfl ?_
  refine zV_callV (E' := eX1_hasCoin (g_rmv 0)) (av := [.int x]) (st := []) (b := 1) dX6_round_5 rfl (k_RX6_82 _) rfl ⟨by decide, by decide⟩ ⟨by decide, by decide⟩ (Or.inl rfl) rfl (Nat.le_of_ble_eq_true rfl) (sh_land (Or.inl rfl)) rfl rfl (c_hasCoin (x := x) (Or.inl rfl) hC.1 hw.1) (fun r5 M5 z => ?_)
  obtain ⟨rfl, rfl⟩ := z
  show zV G (eX6_round (g_rmv 3)) (0, 0) 8 [(0, .ref 0), (1, .int x), (2, .int y)] [.int (b2 (hasC S.1.1 x))] (mm I J t) _
  refine zB_if_eq (tgt := 30) dX6_round_8 rfl rfl  (fun h8 => ?_) (fun h8 => ?_)
  · refine zV_aload_n dX6_round_30 rfl 0 rfl rfl ?_
    refine zV_ldc (v := (-1000001)) dX6_round_31 rfl tw264 ?_
    refine zV_callV (E' := eX6_tell (g_rmv 1)) (av := [.int (-1000001)]) (st := []) (b := 0) dX6_round_33 rfl (k_RX6_70 _) rfl ⟨by decide, by decide⟩ ⟨by decide, by decide⟩ (Or.inl rfl) rfl (Nat.le_of_ble_eq_true rfl) rfl rfl rfl (c_tell (w := 0) (by decide) (by decide)) (fun r33 M33 z => ?_)
    obtain ⟨rfl, rfl⟩ := z
    show zV G (eX6_round (g_rmv 3)) (0, 0) 36 [(0, .ref 0), (1, .int x), (2, .int y)] [.int (fdg 0)] (mm (up2 I 67 0 (I 67 0 + nI 1)) J t) _
    exact zV_ireturn dX6_round_36 rfl rfl (PC.tell hC hw (by unfold op_round; rw [if_neg h8]) (fun _ _ => rfl))
  · obtain ⟨d, hd, rfl⟩ := z_has n10 h8
    have w := hw.1.2.1 d hd
    obtain ⟨w0, w1, w2, w3, w4, w5, w6⟩ := id w
    refine zV_aload_n dX6_round_11 rfl 0 rfl rfl ?_
    refine zV_getr (q' := 1) 0 dX6_round_12 rfl fl_RX6_12 rfl (by decide) rfl rfl ?_
    refine zV_getrX (q' := (1 + 1)) 0 dX6_round_15 rfl fl_RX6_86 (sh_land (Or.inl rfl)) (by decide) rfl (R_coins (Or.inl rfl)) ?_
    refine zV_iload_n dX6_round_18 rfl 1 rfl rfl ?_
    refine zV_aaload (q' := (1 + 3 + d)) d dX6_round_19 rfl (sh_coins (Or.inl rfl)) rfl (by decide) rfl (by omega) (by decide) (R_coin (Or.inl rfl) (by omega)) ?_
    refine zV_getI (x := (nI (S.1.2.1 d 1))) 1 dX6_round_20 rfl fl_RX6_95 (sh_coin (Or.inl rfl) (by omega)) (by decide) rfl (hC.1.2.1 d hd 1 (by decide)) ?_
    refine zV_iload_n dX6_round_23 rfl 2 rfl rfl ?_
    refine zV_callS (E' := eX6_areTwoPurses (g_rmv 2)) (av := [.int (nI (S.1.2.1 d 1)), .int y]) (st := []) dX6_round_24 rfl (k_RX6_142 _) rfl ⟨by decide, by decide⟩ ⟨by decide, by decide⟩ (Or.inl rfl) rfl (Nat.le_of_ble_eq_true rfl) (c_two (x := (nI (S.1.2.1 d 1))) (y := y)) (fun r24 M24 z => ?_)
    obtain ⟨rfl, rfl⟩ := z
    show zV G (eX6_round (g_rmv 3)) (0, 0) 27 [(0, .ref 0), (1, .int (nI d)), (2, .int y)] [.int (b2 (twoP (nI (S.1.2.1 d 1)) y))] (mm I J t) _
    refine zB_if_ne (tgt := 37) dX6_round_27 rfl rfl  (fun h27 => ?_) (fun h27 => ?_)
    · obtain ⟨q, hq, rfl⟩ := (inR_iff (by decide)).mp h27.2.1
      have hpq : S.1.2.1 d 1 ≠ q := fun e => h27.2.2 (by rw [e])
      refine zV_aload_n dX6_round_37 rfl 0 rfl rfl ?_
      refine zV_getr (q' := 14) 1 dX6_round_38 rfl fl_RX6_16 rfl (by decide) rfl rfl ?_
      refine zV_aload_n dX6_round_41 rfl 0 rfl rfl ?_
      refine zV_getr (q' := 1) 0 dX6_round_42 rfl fl_RX6_12 rfl (by decide) rfl rfl ?_
      refine zV_callV (E' := eX1_become (g_rmv 1)) (av := [.ref 1]) (st := []) (b := 14) dX6_round_45 rfl (k_RX6_191 _) rfl ⟨by decide, by decide⟩ ⟨by decide, by decide⟩ (Or.inl rfl) rfl (Nat.le_of_ble_eq_true rfl) (sh_land (Or.inr (Or.inl rfl))) rfl rfl (c_landBecome (Or.inl rfl) (Or.inr (Or.inl rfl)) (by decide) hC.1 hw.1) (fun r45 M45 z => ?_)
      obtain ⟨I45, rfl, rfl, hA45, hF45⟩ := z
      show zV G (eX6_round (g_rmv 3)) (0, 0) 48 [(0, .ref 0), (1, .int (nI d)), (2, .int (nI q))] [] (mm I45 J t) _
      refine zV_aload_n dX6_round_48 rfl 0 rfl rfl ?_
      refine zV_getr (q' := 14) 1 dX6_round_49 rfl fl_RX6_16 rfl (by decide) rfl rfl ?_
      refine zV_getrX (q' := (14 + 1)) 0 dX6_round_52 rfl fl_RX6_86 (sh_land (Or.inr (Or.inl rfl))) (by decide) rfl (R_coins (Or.inr (Or.inl rfl))) ?_
      refine zV_iload_n dX6_round_55 rfl 1 rfl rfl ?_
      refine zV_aaload (q' := (14 + 3 + d)) d dX6_round_56 rfl (sh_coins (Or.inr (Or.inl rfl))) rfl (by decide) rfl (by omega) (by decide) (R_coin (Or.inr (Or.inl rfl)) (by omega)) ?_
      refine zV_astore_n (lv' := [(0, .ref 0), (1, .int (nI d)), (2, .int (nI q)), (3, .ref (14 + 3 + d))]) dX6_round_57 rfl rfl (by decide) rfl ?_
      refine zV_aload_n dX6_round_58 rfl 3 rfl rfl ?_
      refine zV_getI (x := (nI (S.1.2.1 d 1))) 1 dX6_round_59 rfl fl_RX6_95 (sh_coin (Or.inr (Or.inl rfl)) (by omega)) (by decide) rfl (hA45.2.1 d hd 1 (by decide)) ?_
      refine zV_istore (lv' := [(0, .ref 0), (1, .int (nI d)), (2, .int (nI q)), (3, .ref (14 + 3 + d)), (4, .int (nI (S.1.2.1 d 1)))]) dX6_round_62 rfl (by decide) rfl ?_
      refine zV_aload_n dX6_round_64 rfl 3 rfl rfl ?_
      refine zV_callV (E' := eX0_worthNow (g_rmv 2)) (av := []) (st := []) (b := (14 + 3 + d)) dX6_round_65 rfl (k_RX6_110 _) rfl ⟨by decide, by decide⟩ ⟨by decide, by decide⟩ (Or.inl rfl) rfl (Nat.le_of_ble_eq_true rfl) (sh_coin (Or.inr (Or.inl rfl)) (by omega)) rfl rfl (c_worthNow (sh_coin (Or.inr (Or.inl rfl)) (by omega)) (hA45.2.1 d hd) w) (fun r65 M65 z => ?_)
      obtain ⟨rfl, rfl⟩ := z
      show zV G (eX6_round (g_rmv 3)) (0, 0) 68 [(0, .ref 0), (1, .int (nI d)), (2, .int (nI q)), (3, .ref (14 + 3 + d)), (4, .int (nI (S.1.2.1 d 1)))] [.int (nI (k_now (S.1.2.1 d)))] (mm I45 J t) _
      refine zV_istore (lv' := [(0, .ref 0), (1, .int (nI d)), (2, .int (nI q)), (3, .ref (14 + 3 + d)), (4, .int (nI (S.1.2.1 d 1))), (5, .int (nI (k_now (S.1.2.1 d))))]) dX6_round_68 rfl (by decide) rfl ?_
      refine zV_iconst (v := (nI 1)) dX6_round_70 rfl rfl ?_
      refine zV_istore (lv' := [(0, .ref 0), (1, .int (nI d)), (2, .int (nI q)), (3, .ref (14 + 3 + d)), (4, .int (nI (S.1.2.1 d 1))), (5, .int (nI (k_now (S.1.2.1 d)))), (6, .int (nI 1))]) dX6_round_71 rfl (by decide) rfl ?_
      refine z_for (fun c => ∀ (I1 : Nat → Nat → Int32), (absL I1 14 (ld_cset S.1 d (rk (S.1.2.1 d) q c)) ∧ frL 14 I I1 ∧ ∀ i, i < c → rk_y (S.1.2.1 d) q i = false) → zV G (eX6_round (g_rmv 3)) (0, 0) 73 [(0, .ref 0), (1, .int (nI d)), (2, .int (nI q)), (3, .ref (14 + 3 + d)), (4, .int (nI (S.1.2.1 d 1))), (5, .int (nI (k_now (S.1.2.1 d)))), (6, .int (nI (c + 1)))] [] (mm I1 J t) _) 6 ?_ ?_ 0 (Nat.zero_le _) I45 ⟨by rw [show rk (S.1.2.1 d) q 0 = (S.1.2.1 d) from rfl, ld_cset_self]; exact hA45, hF45, fun i h => absurd h (Nat.not_lt_zero _)⟩
      · intro I1 h1
        refine zV_iload dX6_round_73 rfl 6 rfl ?_
        refine zV_bipush (v := (nI 6)) dX6_round_75 rfl rfl ?_
        refine zN_icmp_gt (tgt := 117) dX6_round_77 rfl rfl (by omega) (by omega) (fun _ => ?_) (fun z => absurd z (by omega))
        refine zV_aload_n dX6_round_117 rfl 0 rfl rfl ?_
        refine zV_ldc (v := (-1000004)) dX6_round_118 rfl tw424 ?_
        refine zV_callV (E' := eX6_tell (g_rmv 1)) (av := [.int (-1000004)]) (st := []) (b := 0) dX6_round_120 rfl (k_RX6_70 _) rfl ⟨by decide, by decide⟩ ⟨by decide, by decide⟩ (Or.inl rfl) rfl (Nat.le_of_ble_eq_true rfl) rfl rfl rfl (c_tell (w := 3) (by decide) (by decide)) (fun r120 M120 z => ?_)
        obtain ⟨rfl, rfl⟩ := z
        show zV G (eX6_round (g_rmv 3)) (0, 0) 123 [(0, .ref 0), (1, .int (nI d)), (2, .int (nI q)), (3, .ref (14 + 3 + d)), (4, .int (nI (S.1.2.1 d 1))), (5, .int (nI (k_now (S.1.2.1 d)))), (6, .int (nI 7))] [.int (fdg 3)] (mm (up2 I1 67 3 (I1 67 3 + nI 1)) J t) _
        exact zV_ireturn dX6_round_123 rfl rfl (PC.tell (hC.mv hw (fun i a _ => h1.2.1 i (by unfold scr at a; omega))) hw (by unfold op_round; rw [if_pos h8, tn_nI (show d < 2 ^ 31 by omega), if_pos h27, tn_nI (show q < 2 ^ 31 by omega), if_neg (fst_no h1.2.2)]) (fun i hi => h1.2.1 i (by omega)))
      · intro c hc ih
        intro I1 h1
        have hk : absK I1 (14 + 3 + d) (rk (S.1.2.1 d) q c) := by have h9 := h1.1.2.1 d hd; rwa [ld_cset_at] at h9
        have e87 := rk_p (S.1.2.1 d) q c
        have hwk := wf_rk w (show q < 4 by omega) c (by omega)
        have hwk1 := wf_rk w (show q < 4 by omega) (c + 1) (by omega)
        obtain ⟨y0, y1, y2, y3, y4, y5, y6⟩ := id hwk
        have b1 : k_now (S.1.2.1 d) ≤ 100 := k_wIf_le w _ _ _ _
        have b2 : k_now (rk (S.1.2.1 d) q (c + 1)) ≤ 100 := k_wIf_le hwk1 _ _ _ _
        refine zV_iload dX6_round_73 rfl 6 rfl ?_
        refine zV_bipush (v := (nI 6)) dX6_round_75 rfl rfl ?_
        refine zN_icmp_gt (tgt := 117) dX6_round_77 rfl rfl (by omega) (by omega) (fun z => absurd z (by omega)) (fun _ => ?_)
        refine zV_aload_n dX6_round_80 rfl 3 rfl rfl ?_
        refine zV_aload_n dX6_round_81 rfl 3 rfl rfl ?_
        refine zV_getI (x := (nI ((rk (S.1.2.1 d) q c) 1))) 1 dX6_round_82 rfl fl_RX6_95 (sh_coin (Or.inr (Or.inl rfl)) (by omega)) (by decide) rfl (hk 1 (by decide)) ?_
        refine zV_iload dX6_round_85 rfl 4 rfl ?_
        refine zN_icmp_ne (tgt := 94) dX6_round_87 rfl rfl (by omega) (by omega) (fun h87 => ?_) (fun h87 => ?_)
        · have hp2 : ¬ c % 2 = 0 := fun e => h87 (by rw [e87, if_pos e])
          have er := rk_s1 (k := (S.1.2.1 d)) (q := q) hp2
          refine zV_iload dX6_round_94 rfl 4 rfl ?_
          refine zV_callV (E' := eX0_payTo (g_rmv 2)) (av := [.int (nI (S.1.2.1 d 1))]) (st := []) (b := (14 + 3 + d)) dX6_round_96 rfl (k_RX6_199 _) rfl ⟨by decide, by decide⟩ ⟨by decide, by decide⟩ (Or.inl rfl) rfl (Nat.le_of_ble_eq_true rfl) (sh_coin (Or.inr (Or.inl rfl)) (by omega)) rfl rfl (c_payTo (w := (S.1.2.1 d 1)) (sh_coin (Or.inr (Or.inl rfl)) (by omega)) hk hwk (by omega)) (fun r96 M96 z => ?_)
          obtain ⟨I96, rfl, rfl, hK96, hF96⟩ := z
          rw [← er] at hK96
          show zV G (eX6_round (g_rmv 3)) (0, 0) 99 [(0, .ref 0), (1, .int (nI d)), (2, .int (nI q)), (3, .ref (14 + 3 + d)), (4, .int (nI (S.1.2.1 d 1))), (5, .int (nI (k_now (S.1.2.1 d)))), (6, .int (nI (c + 1)))] [] (mm I96 J t) _
          refine zV_aload_n dX6_round_99 rfl 3 rfl rfl ?_
          refine zV_callV (E' := eX0_worthNow (g_rmv 2)) (av := []) (st := []) (b := (14 + 3 + d)) dX6_round_100 rfl (k_RX6_110 _) rfl ⟨by decide, by decide⟩ ⟨by decide, by decide⟩ (Or.inl rfl) rfl (Nat.le_of_ble_eq_true rfl) (sh_coin (Or.inr (Or.inl rfl)) (by omega)) rfl rfl (c_worthNow (sh_coin (Or.inr (Or.inl rfl)) (by omega)) hK96 hwk1) (fun r100 M100 z => ?_)
          obtain ⟨rfl, rfl⟩ := z
          show zV G (eX6_round (g_rmv 3)) (0, 0) 103 [(0, .ref 0), (1, .int (nI d)), (2, .int (nI q)), (3, .ref (14 + 3 + d)), (4, .int (nI (S.1.2.1 d 1))), (5, .int (nI (k_now (S.1.2.1 d)))), (6, .int (nI (c + 1)))] [.int (nI (k_now (rk (S.1.2.1 d) q (c + 1))))] (mm I96 J t) _
          refine zV_iload dX6_round_103 rfl 5 rfl ?_
          refine zN_icmp_le (tgt := 111) dX6_round_105 rfl rfl (by omega) (by omega) (fun h105 => ?_) (fun h105 => ?_)
          · refine zV_iinc (y := (nI ((c + 1) + 1))) (lv' := [(0, .ref 0), (1, .int (nI d)), (2, .int (nI q)), (3, .ref (14 + 3 + d)), (4, .int (nI (S.1.2.1 d 1))), (5, .int (nI (k_now (S.1.2.1 d)))), (6, .int (nI ((c + 1) + 1)))]) dX6_round_111 rfl 6 rfl (nI_1 _) (by decide) rfl ?_
            refine zV_goto (tgt := 73) dX6_round_114 rfl ?_
            exact ih I96 ⟨by have h9 := h1.1.cset hK96 hF96; rwa [ld_cset2] at h9, h1.2.1.tr (frL.coin (by omega) hF96), fun i hi => by
                by_cases e : i = c
                · subst e; exact decide_eq_false (Nat.not_lt.mpr h105)
                · exact h1.2.2 i (by omega)⟩
          · refine zV_iload dX6_round_108 rfl 6 rfl ?_
            exact zV_ireturn dX6_round_110 rfl rfl (PC.same hC hw (by unfold op_round; rw [if_pos h8, tn_nI (show d < 2 ^ 31 by omega), if_pos h27, tn_nI (show q < 2 ^ 31 by omega), fst_is (c := c) hc h1.2.2 (decide_eq_true h105), if_pos hc]) (fun i hi => (hF96 i (by unfold scr at hi; omega)).trans (h1.2.1 i (by unfold scr at hi; omega))))
        · have hp2 : c % 2 = 0 := Classical.byContradiction fun e => hpq (by rw [e87, if_neg e] at h87; exact h87.symm)
          have er := rk_s0 (k := (S.1.2.1 d)) (q := q) hp2
          refine zV_iload_n dX6_round_90 rfl 2 rfl rfl ?_
          refine zV_goto (tgt := 96) dX6_round_91 rfl ?_
          refine zV_callV (E' := eX0_payTo (g_rmv 2)) (av := [.int (nI q)]) (st := []) (b := (14 + 3 + d)) dX6_round_96 rfl (k_RX6_199 _) rfl ⟨by decide, by decide⟩ ⟨by decide, by decide⟩ (Or.inl rfl) rfl (Nat.le_of_ble_eq_true rfl) (sh_coin (Or.inr (Or.inl rfl)) (by omega)) rfl rfl (c_payTo (w := q) (sh_coin (Or.inr (Or.inl rfl)) (by omega)) hk hwk (by omega)) (fun r96 M96 z => ?_)
          obtain ⟨I96, rfl, rfl, hK96, hF96⟩ := z
          rw [← er] at hK96
          show zV G (eX6_round (g_rmv 3)) (0, 0) 99 [(0, .ref 0), (1, .int (nI d)), (2, .int (nI q)), (3, .ref (14 + 3 + d)), (4, .int (nI (S.1.2.1 d 1))), (5, .int (nI (k_now (S.1.2.1 d)))), (6, .int (nI (c + 1)))] [] (mm I96 J t) _
          refine zV_aload_n dX6_round_99 rfl 3 rfl rfl ?_
          refine zV_callV (E' := eX0_worthNow (g_rmv 2)) (av := []) (st := []) (b := (14 + 3 + d)) dX6_round_100 rfl (k_RX6_110 _) rfl ⟨by decide, by decide⟩ ⟨by decide, by decide⟩ (Or.inl rfl) rfl (Nat.le_of_ble_eq_true rfl) (sh_coin (Or.inr (Or.inl rfl)) (by omega)) rfl rfl (c_worthNow (sh_coin (Or.inr (Or.inl rfl)) (by omega)) hK96 hwk1) (fun r100 M100 z => ?_)
          obtain ⟨rfl, rfl⟩ := z
          show zV G (eX6_round (g_rmv 3)) (0, 0) 103 [(0, .ref 0), (1, .int (nI d)), (2, .int (nI q)), (3, .ref (14 + 3 + d)), (4, .int (nI (S.1.2.1 d 1))), (5, .int (nI (k_now (S.1.2.1 d)))), (6, .int (nI (c + 1)))] [.int (nI (k_now (rk (S.1.2.1 d) q (c + 1))))] (mm I96 J t) _
          refine zV_iload dX6_round_103 rfl 5 rfl ?_
          refine zN_icmp_le (tgt := 111) dX6_round_105 rfl rfl (by omega) (by omega) (fun h105 => ?_) (fun h105 => ?_)
          · refine zV_iinc (y := (nI ((c + 1) + 1))) (lv' := [(0, .ref 0), (1, .int (nI d)), (2, .int (nI q)), (3, .ref (14 + 3 + d)), (4, .int (nI (S.1.2.1 d 1))), (5, .int (nI (k_now (S.1.2.1 d)))), (6, .int (nI ((c + 1) + 1)))]) dX6_round_111 rfl 6 rfl (nI_1 _) (by decide) rfl ?_
            refine zV_goto (tgt := 73) dX6_round_114 rfl ?_
            exact ih I96 ⟨by have h9 := h1.1.cset hK96 hF96; rwa [ld_cset2] at h9, h1.2.1.tr (frL.coin (by omega) hF96), fun i hi => by
                by_cases e : i = c
                · subst e; exact decide_eq_false (Nat.not_lt.mpr h105)
                · exact h1.2.2 i (by omega)⟩
          · refine zV_iload dX6_round_108 rfl 6 rfl ?_
            exact zV_ireturn dX6_round_110 rfl rfl (PC.same hC hw (by unfold op_round; rw [if_pos h8, tn_nI (show d < 2 ^ 31 by omega), if_pos h27, tn_nI (show q < 2 ^ 31 by omega), fst_is (c := c) hc h1.2.2 (decide_eq_true h105), if_pos hc]) (fun i hi => (hF96 i (by unfold scr at hi; omega)).trans (h1.2.1 i (by unfold scr at hi; omega))))
    · refine zV_aload_n dX6_round_30 rfl 0 rfl rfl ?_
      refine zV_ldc (v := (-1000001)) dX6_round_31 rfl tw264 ?_
      refine zV_callV (E' := eX6_tell (g_rmv 1)) (av := [.int (-1000001)]) (st := []) (b := 0) dX6_round_33 rfl (k_RX6_70 _) rfl ⟨by decide, by decide⟩ ⟨by decide, by decide⟩ (Or.inl rfl) rfl (Nat.le_of_ble_eq_true rfl) rfl rfl rfl (c_tell (w := 0) (by decide) (by decide)) (fun r33 M33 z => ?_)
      obtain ⟨rfl, rfl⟩ := z
      show zV G (eX6_round (g_rmv 3)) (0, 0) 36 [(0, .ref 0), (1, .int (nI d)), (2, .int y)] [.int (fdg 0)] (mm (up2 I 67 0 (I 67 0 + nI 1)) J t) _
      exact zV_ireturn dX6_round_36 rfl rfl (PC.tell hC hw (by unfold op_round; rw [if_pos h8, tn_nI (show d < 2 ^ 31 by omega), if_neg h27]) (fun _ _ => rfl))

set_option maxRecDepth 100000 in
theorem q_round {G : mG} {I : Nat → Nat → Int32} {J : Nat → Nat → Int64} {t : Nat} {B : Nat} {S : aS} (hM : InvM I S) (hw : wfS B S) (hB : B + 24 < 1000000) {x y : Int32} : zC G yX7_round (eX7_round (g_rmv 5)) [.ref 76, .int x, .int y] (mm I J t) (fun r M => PM I (op_round S x y) r M) := by
  refine zC_of (by decide +kernel) rfl (by decide) (Nat.le_of_ble_eq_true rfl) ?_
  have n10 := hw.1.1
  show zV G (eX7_round (g_rmv 5)) (0, 0) 0 [(0, .ref 76), (1, .int x), (2, .int y)] [] (mm I J t) _
  refine zV_aload_n dX7_round_0 rfl 0 rfl rfl ?_
  refine zV_iload_n dX7_round_1 rfl 1 rfl rfl ?_
  refine zV_callV (E' := eX7_isCoin (g_rmv 1)) (av := [.int x]) (st := []) (b := 76) dX7_round_2 rfl (k_RX7_124 _) rfl ⟨by decide, by decide⟩ ⟨by decide, by decide⟩ (Or.inl rfl) rfl (Nat.le_of_ble_eq_true rfl) rfl rfl rfl (m_isCoin (x := x) hM.1 hw.1) (fun r2 M2 z => ?_)
  obtain ⟨rfl, rfl⟩ := z
  show zV G (eX7_round (g_rmv 5)) (0, 0) 5 [(0, .ref 76), (1, .int x), (2, .int y)] [.int (b2 (hasC S.1.1 x))] (mm I J t) _
  refine zB_if_eq (tgt := 25) dX7_round_5 rfl rfl  (fun h5 => ?_) (fun h5 => ?_)
  · refine zV_aload_n dX7_round_25 rfl 0 rfl rfl ?_
    refine zV_ldc (v := (-1000001)) dX7_round_26 rfl tw970 ?_
    refine zV_callV (E' := eX7_finding (g_rmv 0)) (av := [.int (-1000001)]) (st := []) (b := 76) dX7_round_28 rfl (k_RX7_87 _) rfl ⟨by decide, by decide⟩ ⟨by decide, by decide⟩ (Or.inl rfl) rfl (Nat.le_of_ble_eq_true rfl) rfl rfl rfl (m_finding (w := 0) (by decide) (by decide)) (fun r28 M28 z => ?_)
    obtain ⟨rfl, rfl⟩ := z
    show zV G (eX7_round (g_rmv 5)) (0, 0) 31 [(0, .ref 76), (1, .int x), (2, .int y)] [.int (fdg 0)] (mm (mTell I 0) J t) _
    exact zV_ireturn dX7_round_31 rfl rfl (PM.tell hM (by decide) (by unfold op_round; rw [if_neg h5]) scM.rf)
  · obtain ⟨d, hd, rfl⟩ := z_has n10 h5
    have w := hw.1.2.1 d hd
    obtain ⟨w0, w1, w2, w3, w4, w5, w6⟩ := id w
    refine zV_iload_n dX7_round_8 rfl 2 rfl rfl ?_
    refine zV_callS (E' := eX7_isPurse (g_rmv 1)) (av := [.int y]) (st := []) dX7_round_9 rfl (k_RX7_76 _) rfl ⟨by decide, by decide⟩ ⟨by decide, by decide⟩ (Or.inl rfl) rfl (Nat.le_of_ble_eq_true rfl) (m_isPurse (x := y)) (fun r9 M9 z => ?_)
    obtain ⟨rfl, rfl⟩ := z
    show zV G (eX7_round (g_rmv 5)) (0, 0) 12 [(0, .ref 76), (1, .int (nI d)), (2, .int y)] [.int (b2 (inR y 3))] (mm I J t) _
    refine zB_if_eq (tgt := 25) dX7_round_12 rfl rfl  (fun h12 => ?_) (fun h12 => ?_)
    · refine zV_aload_n dX7_round_25 rfl 0 rfl rfl ?_
      refine zV_ldc (v := (-1000001)) dX7_round_26 rfl tw970 ?_
      refine zV_callV (E' := eX7_finding (g_rmv 0)) (av := [.int (-1000001)]) (st := []) (b := 76) dX7_round_28 rfl (k_RX7_87 _) rfl ⟨by decide, by decide⟩ ⟨by decide, by decide⟩ (Or.inl rfl) rfl (Nat.le_of_ble_eq_true rfl) rfl rfl rfl (m_finding (w := 0) (by decide) (by decide)) (fun r28 M28 z => ?_)
      obtain ⟨rfl, rfl⟩ := z
      show zV G (eX7_round (g_rmv 5)) (0, 0) 31 [(0, .ref 76), (1, .int (nI d)), (2, .int y)] [.int (fdg 0)] (mm (mTell I 0) J t) _
      exact zV_ireturn dX7_round_31 rfl rfl (PM.tell hM (by decide) (by unfold op_round; rw [if_pos h5, tn_nI (show d < 2 ^ 31 by omega), if_neg (show ¬ twoP (nI (S.1.2.1 d 1)) y from fun z => h12 z.2.1)]) scM.rf)
    · obtain ⟨q, hq, rfl⟩ := (inR_iff (by decide)).mp h12
      refine zV_aload_n dX7_round_15 rfl 0 rfl rfl ?_
      refine zV_iload_n dX7_round_16 rfl 1 rfl rfl ?_
      refine zV_iconst (v := (nI 1)) dX7_round_17 rfl rfl ?_
      refine zV_callV (E' := eX7_coinIs (g_rmv 1)) (av := [.int (nI d), .int (nI 1)]) (st := []) (b := 76) dX7_round_18 rfl (k_RX7_99 _) rfl ⟨by decide, by decide⟩ ⟨by decide, by decide⟩ (Or.inl rfl) rfl (Nat.le_of_ble_eq_true rfl) rfl rfl rfl (m_coinIs (c := d) (f := 1) hM.1 hw.1 hd (by decide)) (fun r18 M18 z => ?_)
      obtain ⟨rfl, rfl⟩ := z
      show zV G (eX7_round (g_rmv 5)) (0, 0) 21 [(0, .ref 76), (1, .int (nI d)), (2, .int (nI q))] [.int (nI (S.1.2.1 d 1))] (mm I J t) _
      refine zV_iload_n dX7_round_21 rfl 2 rfl rfl ?_
      refine zN_icmp_ne (tgt := 32) dX7_round_22 rfl rfl (by omega) (by omega) (fun h22 => ?_) (fun h22 => ?_)
      · refine zV_aload_n dX7_round_32 rfl 0 rfl rfl ?_
        refine zV_getr (q' := 77) 0 dX7_round_33 rfl fl_RX7_9 rfl (by decide) rfl rfl ?_
        refine zV_aload_n dX7_round_36 rfl 0 rfl rfl ?_
        refine zV_getr (q' := 79) 2 dX7_round_37 rfl fl_RX7_16 rfl (by decide) rfl rfl ?_
        refine zV_callS (E' := eX7_copyRow (g_rmv 0)) (av := [.ref 77, .ref 79]) (st := []) dX7_round_40 rfl (k_RX7_68 _) rfl ⟨by decide, by decide⟩ ⟨by decide, by decide⟩ (Or.inl rfl) rfl (Nat.le_of_ble_eq_true rfl) (m_copyRow rfl rfl (by decide)) (fun r40 M40 z => ?_)
        obtain ⟨I40, rfl, rfl, hX40, hF40⟩ := z
        show zV G (eX7_round (g_rmv 5)) (0, 0) 43 [(0, .ref 76), (1, .int (nI d)), (2, .int (nI q))] [] (mm I40 J t) _
        refine zV_aload_n dX7_round_43 rfl 0 rfl rfl ?_
        refine zV_iload_n dX7_round_44 rfl 1 rfl rfl ?_
        refine zV_iconst (v := (nI 1)) dX7_round_45 rfl rfl ?_
        refine zV_callV (E' := eX7_coinIs (g_rmv 1)) (av := [.int (nI d), .int (nI 1)]) (st := []) (b := 76) dX7_round_46 rfl (k_RX7_99 _) rfl ⟨by decide, by decide⟩ ⟨by decide, by decide⟩ (Or.inl rfl) rfl (Nat.le_of_ble_eq_true rfl) rfl rfl rfl (m_coinIs (c := d) (f := 1) (hM.1.mv (hF40 77 (by decide))) hw.1 hd (by decide)) (fun r46 M46 z => ?_)
        obtain ⟨rfl, rfl⟩ := z
        show zV G (eX7_round (g_rmv 5)) (0, 0) 49 [(0, .ref 76), (1, .int (nI d)), (2, .int (nI q))] [.int (nI (S.1.2.1 d 1))] (mm I40 J t) _
        refine zV_istore_n (lv' := [(0, .ref 76), (1, .int (nI d)), (2, .int (nI q)), (3, .int (nI (S.1.2.1 d 1)))]) dX7_round_49 rfl rfl (by decide) rfl ?_
        refine zV_aload_n dX7_round_50 rfl 0 rfl rfl ?_
        refine zV_iload_n dX7_round_51 rfl 1 rfl rfl ?_
        refine zV_callV (E' := eX7_worth (g_rmv 3)) (av := [.int (nI d)]) (st := []) (b := 76) dX7_round_52 rfl (k_RX7_127 _) rfl ⟨by decide, by decide⟩ ⟨by decide, by decide⟩ (Or.inl rfl) rfl (Nat.le_of_ble_eq_true rfl) rfl rfl rfl (m_worth (c := d) (hM.1.mv (hF40 77 (by decide))) hw.1 hd) (fun r52 M52 z => ?_)
        obtain ⟨rfl, rfl⟩ := z
        show zV G (eX7_round (g_rmv 5)) (0, 0) 55 [(0, .ref 76), (1, .int (nI d)), (2, .int (nI q)), (3, .int (nI (S.1.2.1 d 1)))] [.int (nI (k_now (S.1.2.1 d)))] (mm I40 J t) _
        refine zV_istore (lv' := [(0, .ref 76), (1, .int (nI d)), (2, .int (nI q)), (3, .int (nI (S.1.2.1 d 1))), (4, .int (nI (k_now (S.1.2.1 d))))]) dX7_round_55 rfl (by decide) rfl ?_
        refine zV_iconst (v := (nI 0)) dX7_round_57 rfl rfl ?_
        refine zV_istore (lv' := [(0, .ref 76), (1, .int (nI d)), (2, .int (nI q)), (3, .int (nI (S.1.2.1 d 1))), (4, .int (nI (k_now (S.1.2.1 d)))), (5, .int (nI 0))]) dX7_round_58 rfl (by decide) rfl ?_
        refine zV_iconst (v := (nI 0)) dX7_round_60 rfl rfl ?_
        refine zV_istore (lv' := [(0, .ref 76), (1, .int (nI d)), (2, .int (nI q)), (3, .int (nI (S.1.2.1 d 1))), (4, .int (nI (k_now (S.1.2.1 d)))), (5, .int (nI 0)), (6, .int (nI 0))]) dX7_round_61 rfl (by decide) rfl ?_
        refine z_for (fun c => ∀ (I1 : Nat → Nat → Int32), (absR I1 77 (ld_cset S.1 d (rk (S.1.2.1 d) q c)) ∧ frM I40 I1 ∧ ∀ i, i < c → rk_y (S.1.2.1 d) q i = false) → zV G (eX7_round (g_rmv 5)) (0, 0) 63 [(0, .ref 76), (1, .int (nI d)), (2, .int (nI q)), (3, .int (nI (S.1.2.1 d 1))), (4, .int (nI (k_now (S.1.2.1 d)))), (5, .int (nI c)), (6, .int (nI 0))] [] (mm I1 J t) _) 6 ?_ ?_ 0 (Nat.zero_le _) I40 ⟨by rw [show rk (S.1.2.1 d) q 0 = (S.1.2.1 d) from rfl, ld_cset_self]; exact (hM.1.mv (hF40 77 (by decide))), frM.rf, fun i h => absurd h (Nat.not_lt_zero _)⟩
        · intro I1 h1
          refine zV_iload dX7_round_63 rfl 5 rfl ?_
          refine zV_bipush (v := (nI 6)) dX7_round_65 rfl rfl ?_
          refine zN_icmp_ge (tgt := 115) dX7_round_67 rfl rfl (by omega) (by omega) (fun _ => ?_) (fun z => absurd z (by omega))
          refine zV_aload_n dX7_round_115 rfl 0 rfl rfl ?_
          refine zV_iload dX7_round_116 rfl 6 rfl ?_
          refine zN_if_eq (tgt := 125) dX7_round_118 rfl rfl (by decide) (fun _ => ?_) (fun z => absurd z (by decide))
          refine zV_iconst (v := (nI 0)) dX7_round_125 rfl rfl ?_
          refine zV_callV (E' := eX7_putBack (g_rmv 1)) (av := [.int (nI 0)]) (st := []) (b := 76) dX7_round_126 rfl (k_RX7_211 _) rfl ⟨by decide, by decide⟩ ⟨by decide, by decide⟩ (Or.inl rfl) rfl (Nat.le_of_ble_eq_true rfl) rfl rfl rfl (m_putBack (x := (nI 0))) (fun r126 M126 z => ?_)
          obtain ⟨I126, rfl, rfl, hX126, hF126⟩ := z
          show zV G (eX7_round (g_rmv 5)) (0, 0) 129 [(0, .ref 76), (1, .int (nI d)), (2, .int (nI q)), (3, .int (nI (S.1.2.1 d 1))), (4, .int (nI (k_now (S.1.2.1 d)))), (5, .int (nI 6)), (6, .int (nI 0))] [.int (nI 0)] (mm I126 J t) _
          refine zV_iconst (v := (nI 1)) dX7_round_129 rfl rfl ?_
          refine zN_icmp_ne (tgt := 138) dX7_round_130 rfl rfl (by decide) (by decide) (fun _ => ?_) (fun z => absurd z (by decide))
          refine zV_aload_n dX7_round_138 rfl 0 rfl rfl ?_
          refine zV_ldc (v := (-1000004)) dX7_round_139 rfl tw1107 ?_
          refine zV_callV (E' := eX7_finding (g_rmv 0)) (av := [.int (-1000004)]) (st := []) (b := 76) dX7_round_141 rfl (k_RX7_87 _) rfl ⟨by decide, by decide⟩ ⟨by decide, by decide⟩ (Or.inl rfl) rfl (Nat.le_of_ble_eq_true rfl) rfl rfl rfl (m_finding (w := 3) (by decide) (by decide)) (fun r141 M141 z => ?_)
          obtain ⟨rfl, rfl⟩ := z
          show zV G (eX7_round (g_rmv 5)) (0, 0) 144 [(0, .ref 76), (1, .int (nI d)), (2, .int (nI q)), (3, .int (nI (S.1.2.1 d 1))), (4, .int (nI (k_now (S.1.2.1 d)))), (5, .int (nI 6)), (6, .int (nI 0))] [.int (fdg 3)] (mm (mTell I126 3) J t) _
          exact zV_ireturn dX7_round_144 rfl rfl (PM.backT hM hw (by decide) (by unfold op_round; rw [if_pos h5, tn_nI (show d < 2 ^ 31 by omega), if_pos (twoP_mk w1 (by omega) h22), tn_nI (show q < 2 ^ 31 by omega), if_neg (fst_no h1.2.2)]) (fun j hj => by rw [hX126 j hj, h1.2.1 79 (by decide), hX40 j hj]) (fun i h77 h79 => by rw [hF126 i h77, h1.2.1 i h77, hF40 i h79]))
        · intro c hc ih
          intro I1 h1
          have hwk := wf_rk w (show q < 4 by omega) c (by omega)
          have hwk1 := wf_rk w (show q < 4 by omega) (c + 1) (by omega)
          have hWc := wf_cset2 (c := d) hw.1 hwk (by omega) (by omega)
          have b1 : k_now (S.1.2.1 d) ≤ 100 := k_wIf_le w _ _ _ _
          have b2 : k_now (rk (S.1.2.1 d) q (c + 1)) ≤ 100 := k_wIf_le hwk1 _ _ _ _
          refine zV_iload dX7_round_63 rfl 5 rfl ?_
          refine zV_bipush (v := (nI 6)) dX7_round_65 rfl rfl ?_
          refine zN_icmp_ge (tgt := 115) dX7_round_67 rfl rfl (by omega) (by omega) (fun z => absurd z (by omega)) (fun _ => ?_)
          refine zV_iload dX7_round_70 rfl 6 rfl ?_
          refine zN_if_ne (tgt := 115) dX7_round_72 rfl rfl (by decide) (fun z => absurd z (by decide)) (fun _ => ?_)
          refine zV_aload_n dX7_round_75 rfl 0 rfl rfl ?_
          refine zV_iload_n dX7_round_76 rfl 1 rfl rfl ?_
          refine zV_iload dX7_round_77 rfl 5 rfl ?_
          refine zV_iconst (v := (nI 2)) dX7_round_79 rfl rfl ?_
          refine zA_irem (z := (nI (c % 2))) dX7_round_80 rfl (by decide) (pk_rem (by omega) (by omega) (by omega)) ?_
          refine zN_if_ne (tgt := 88) dX7_round_81 rfl rfl (by omega) (fun h81 => ?_) (fun h81 => ?_)
          · have er := rk_s1 (k := (S.1.2.1 d)) (q := q) h81
            refine zV_iload_n dX7_round_88 rfl 3 rfl rfl ?_
            refine zV_callV (E' := eX7_paid (g_rmv 4)) (av := [.int (nI d), .int (nI (S.1.2.1 d 1))]) (st := []) (b := 76) dX7_round_89 rfl (k_RX7_155 _) rfl ⟨by decide, by decide⟩ ⟨by decide, by decide⟩ (Or.inl rfl) rfl (Nat.le_of_ble_eq_true rfl) rfl rfl rfl (m_paid (c := d) (p := (S.1.2.1 d 1)) h1.1 hWc hd (by omega)) (fun r89 M89 z => ?_)
            obtain ⟨I89, rfl, rfl, hR89, hF89⟩ := z
            rw [ld_cset_at, ld_cset2, ← er] at hR89
            have hW89 := wf_cset2 (c := d) hw.1 hwk1 (by omega) (by omega)
            show zV G (eX7_round (g_rmv 5)) (0, 0) 92 [(0, .ref 76), (1, .int (nI d)), (2, .int (nI q)), (3, .int (nI (S.1.2.1 d 1))), (4, .int (nI (k_now (S.1.2.1 d)))), (5, .int (nI c)), (6, .int (nI 0))] [] (mm I89 J t) _
            refine zV_aload_n dX7_round_92 rfl 0 rfl rfl ?_
            refine zV_iload_n dX7_round_93 rfl 1 rfl rfl ?_
            refine zV_callV (E' := eX7_worth (g_rmv 3)) (av := [.int (nI d)]) (st := []) (b := 76) dX7_round_94 rfl (k_RX7_127 _) rfl ⟨by decide, by decide⟩ ⟨by decide, by decide⟩ (Or.inl rfl) rfl (Nat.le_of_ble_eq_true rfl) rfl rfl rfl (m_worth (c := d) hR89 hW89 hd) (fun r94 M94 z => ?_)
            obtain ⟨rfl, rfl⟩ := z
            rw [ld_cset_at]
            show zV G (eX7_round (g_rmv 5)) (0, 0) 97 [(0, .ref 76), (1, .int (nI d)), (2, .int (nI q)), (3, .int (nI (S.1.2.1 d 1))), (4, .int (nI (k_now (S.1.2.1 d)))), (5, .int (nI c)), (6, .int (nI 0))] [.int (nI (k_now (rk (S.1.2.1 d) q (c + 1))))] (mm I89 J t) _
            refine zV_iload dX7_round_97 rfl 4 rfl ?_
            refine zN_icmp_le (tgt := 106) dX7_round_99 rfl rfl (by omega) (by omega) (fun h99 => ?_) (fun h99 => ?_)
            · refine zV_iconst (v := (nI 0)) dX7_round_106 rfl rfl ?_
              refine zV_istore (lv' := [(0, .ref 76), (1, .int (nI d)), (2, .int (nI q)), (3, .int (nI (S.1.2.1 d 1))), (4, .int (nI (k_now (S.1.2.1 d)))), (5, .int (nI c)), (6, .int (nI 0))]) dX7_round_107 rfl (by decide) rfl ?_
              refine zV_iinc (y := (nI (c + 1))) (lv' := [(0, .ref 76), (1, .int (nI d)), (2, .int (nI q)), (3, .int (nI (S.1.2.1 d 1))), (4, .int (nI (k_now (S.1.2.1 d)))), (5, .int (nI (c + 1))), (6, .int (nI 0))]) dX7_round_109 rfl 5 rfl (nI_1 _) (by decide) rfl ?_
              refine zV_goto (tgt := 63) dX7_round_112 rfl ?_
              exact ih I89 ⟨hR89, h1.2.1.tr hF89, fun i hi => by
                  by_cases e : i = c
                  · subst e; exact decide_eq_false (Nat.not_lt.mpr h99)
                  · exact h1.2.2 i (by omega)⟩
            · refine zV_iconst (v := (nI 1)) dX7_round_102 rfl rfl ?_
              refine zV_goto (tgt := 107) dX7_round_103 rfl ?_
              refine zV_istore (lv' := [(0, .ref 76), (1, .int (nI d)), (2, .int (nI q)), (3, .int (nI (S.1.2.1 d 1))), (4, .int (nI (k_now (S.1.2.1 d)))), (5, .int (nI c)), (6, .int (nI 1))]) dX7_round_107 rfl (by decide) rfl ?_
              refine zV_iinc (y := (nI (c + 1))) (lv' := [(0, .ref 76), (1, .int (nI d)), (2, .int (nI q)), (3, .int (nI (S.1.2.1 d 1))), (4, .int (nI (k_now (S.1.2.1 d)))), (5, .int (nI (c + 1))), (6, .int (nI 1))]) dX7_round_109 rfl 5 rfl (nI_1 _) (by decide) rfl ?_
              refine zV_goto (tgt := 63) dX7_round_112 rfl ?_
              refine zV_iload dX7_round_63 rfl 5 rfl ?_
              refine zV_bipush (v := (nI 6)) dX7_round_65 rfl rfl ?_
              refine zN_icmp_ge (tgt := 115) dX7_round_67 rfl rfl (by omega) (by omega) (fun h67 => ?_) (fun h67 => ?_)
              · refine zV_aload_n dX7_round_115 rfl 0 rfl rfl ?_
                refine zV_iload dX7_round_116 rfl 6 rfl ?_
                refine zN_if_eq (tgt := 125) dX7_round_118 rfl rfl (by decide) (fun z => absurd z (by decide)) (fun _ => ?_)
                refine zV_iconst (v := (nI 1)) dX7_round_121 rfl rfl ?_
                refine zV_goto (tgt := 126) dX7_round_122 rfl ?_
                refine zV_callV (E' := eX7_putBack (g_rmv 1)) (av := [.int (nI 1)]) (st := []) (b := 76) dX7_round_126 rfl (k_RX7_211 _) rfl ⟨by decide, by decide⟩ ⟨by decide, by decide⟩ (Or.inl rfl) rfl (Nat.le_of_ble_eq_true rfl) rfl rfl rfl (m_putBack (x := (nI 1))) (fun r126 M126 z => ?_)
                obtain ⟨I126, rfl, rfl, hX126, hF126⟩ := z
                show zV G (eX7_round (g_rmv 5)) (0, 0) 129 [(0, .ref 76), (1, .int (nI d)), (2, .int (nI q)), (3, .int (nI (S.1.2.1 d 1))), (4, .int (nI (k_now (S.1.2.1 d)))), (5, .int (nI (c + 1))), (6, .int (nI 1))] [.int (nI 1)] (mm I126 J t) _
                refine zV_iconst (v := (nI 1)) dX7_round_129 rfl rfl ?_
                refine zN_icmp_ne (tgt := 138) dX7_round_130 rfl rfl (by decide) (by decide) (fun z => absurd z (by decide)) (fun _ => ?_)
                refine zV_iload dX7_round_133 rfl 5 rfl ?_
                refine zV_goto (tgt := 144) dX7_round_135 rfl ?_
                exact zV_ireturn dX7_round_144 rfl rfl (PM.back hM hw (by unfold op_round; rw [if_pos h5, tn_nI (show d < 2 ^ 31 by omega), if_pos (twoP_mk w1 (by omega) h22), tn_nI (show q < 2 ^ 31 by omega), fst_is (c := c) hc h1.2.2 (decide_eq_true h99), if_pos hc]) (fun j hj => by rw [hX126 j hj, hF89 79 (by decide), h1.2.1 79 (by decide), hX40 j hj]) (fun i h77 h79 => by rw [hF126 i h77, hF89 i h77, h1.2.1 i h77, hF40 i h79]))
              · refine zV_iload dX7_round_70 rfl 6 rfl ?_
                refine zN_if_ne (tgt := 115) dX7_round_72 rfl rfl (by decide) (fun _ => ?_) (fun z => absurd z (by decide))
                refine zV_aload_n dX7_round_115 rfl 0 rfl rfl ?_
                refine zV_iload dX7_round_116 rfl 6 rfl ?_
                refine zN_if_eq (tgt := 125) dX7_round_118 rfl rfl (by decide) (fun z => absurd z (by decide)) (fun _ => ?_)
                refine zV_iconst (v := (nI 1)) dX7_round_121 rfl rfl ?_
                refine zV_goto (tgt := 126) dX7_round_122 rfl ?_
                refine zV_callV (E' := eX7_putBack (g_rmv 1)) (av := [.int (nI 1)]) (st := []) (b := 76) dX7_round_126 rfl (k_RX7_211 _) rfl ⟨by decide, by decide⟩ ⟨by decide, by decide⟩ (Or.inl rfl) rfl (Nat.le_of_ble_eq_true rfl) rfl rfl rfl (m_putBack (x := (nI 1))) (fun r126 M126 z => ?_)
                obtain ⟨I126, rfl, rfl, hX126, hF126⟩ := z
                show zV G (eX7_round (g_rmv 5)) (0, 0) 129 [(0, .ref 76), (1, .int (nI d)), (2, .int (nI q)), (3, .int (nI (S.1.2.1 d 1))), (4, .int (nI (k_now (S.1.2.1 d)))), (5, .int (nI (c + 1))), (6, .int (nI 1))] [.int (nI 1)] (mm I126 J t) _
                refine zV_iconst (v := (nI 1)) dX7_round_129 rfl rfl ?_
                refine zN_icmp_ne (tgt := 138) dX7_round_130 rfl rfl (by decide) (by decide) (fun z => absurd z (by decide)) (fun _ => ?_)
                refine zV_iload dX7_round_133 rfl 5 rfl ?_
                refine zV_goto (tgt := 144) dX7_round_135 rfl ?_
                exact zV_ireturn dX7_round_144 rfl rfl (PM.back hM hw (by unfold op_round; rw [if_pos h5, tn_nI (show d < 2 ^ 31 by omega), if_pos (twoP_mk w1 (by omega) h22), tn_nI (show q < 2 ^ 31 by omega), fst_is (c := c) hc h1.2.2 (decide_eq_true h99), if_pos hc]) (fun j hj => by rw [hX126 j hj, hF89 79 (by decide), h1.2.1 79 (by decide), hX40 j hj]) (fun i h77 h79 => by rw [hF126 i h77, hF89 i h77, h1.2.1 i h77, hF40 i h79]))
          · have er := rk_s0 (k := (S.1.2.1 d)) (q := q) h81
            refine zV_iload_n dX7_round_84 rfl 2 rfl rfl ?_
            refine zV_goto (tgt := 89) dX7_round_85 rfl ?_
            refine zV_callV (E' := eX7_paid (g_rmv 4)) (av := [.int (nI d), .int (nI q)]) (st := []) (b := 76) dX7_round_89 rfl (k_RX7_155 _) rfl ⟨by decide, by decide⟩ ⟨by decide, by decide⟩ (Or.inl rfl) rfl (Nat.le_of_ble_eq_true rfl) rfl rfl rfl (m_paid (c := d) (p := q) h1.1 hWc hd (by omega)) (fun r89 M89 z => ?_)
            obtain ⟨I89, rfl, rfl, hR89, hF89⟩ := z
            rw [ld_cset_at, ld_cset2, ← er] at hR89
            have hW89 := wf_cset2 (c := d) hw.1 hwk1 (by omega) (by omega)
            show zV G (eX7_round (g_rmv 5)) (0, 0) 92 [(0, .ref 76), (1, .int (nI d)), (2, .int (nI q)), (3, .int (nI (S.1.2.1 d 1))), (4, .int (nI (k_now (S.1.2.1 d)))), (5, .int (nI c)), (6, .int (nI 0))] [] (mm I89 J t) _
            refine zV_aload_n dX7_round_92 rfl 0 rfl rfl ?_
            refine zV_iload_n dX7_round_93 rfl 1 rfl rfl ?_
            refine zV_callV (E' := eX7_worth (g_rmv 3)) (av := [.int (nI d)]) (st := []) (b := 76) dX7_round_94 rfl (k_RX7_127 _) rfl ⟨by decide, by decide⟩ ⟨by decide, by decide⟩ (Or.inl rfl) rfl (Nat.le_of_ble_eq_true rfl) rfl rfl rfl (m_worth (c := d) hR89 hW89 hd) (fun r94 M94 z => ?_)
            obtain ⟨rfl, rfl⟩ := z
            rw [ld_cset_at]
            show zV G (eX7_round (g_rmv 5)) (0, 0) 97 [(0, .ref 76), (1, .int (nI d)), (2, .int (nI q)), (3, .int (nI (S.1.2.1 d 1))), (4, .int (nI (k_now (S.1.2.1 d)))), (5, .int (nI c)), (6, .int (nI 0))] [.int (nI (k_now (rk (S.1.2.1 d) q (c + 1))))] (mm I89 J t) _
            refine zV_iload dX7_round_97 rfl 4 rfl ?_
            refine zN_icmp_le (tgt := 106) dX7_round_99 rfl rfl (by omega) (by omega) (fun h99 => ?_) (fun h99 => ?_)
            · refine zV_iconst (v := (nI 0)) dX7_round_106 rfl rfl ?_
              refine zV_istore (lv' := [(0, .ref 76), (1, .int (nI d)), (2, .int (nI q)), (3, .int (nI (S.1.2.1 d 1))), (4, .int (nI (k_now (S.1.2.1 d)))), (5, .int (nI c)), (6, .int (nI 0))]) dX7_round_107 rfl (by decide) rfl ?_
              refine zV_iinc (y := (nI (c + 1))) (lv' := [(0, .ref 76), (1, .int (nI d)), (2, .int (nI q)), (3, .int (nI (S.1.2.1 d 1))), (4, .int (nI (k_now (S.1.2.1 d)))), (5, .int (nI (c + 1))), (6, .int (nI 0))]) dX7_round_109 rfl 5 rfl (nI_1 _) (by decide) rfl ?_
              refine zV_goto (tgt := 63) dX7_round_112 rfl ?_
              exact ih I89 ⟨hR89, h1.2.1.tr hF89, fun i hi => by
                  by_cases e : i = c
                  · subst e; exact decide_eq_false (Nat.not_lt.mpr h99)
                  · exact h1.2.2 i (by omega)⟩
            · refine zV_iconst (v := (nI 1)) dX7_round_102 rfl rfl ?_
              refine zV_goto (tgt := 107) dX7_round_103 rfl ?_
              refine zV_istore (lv' := [(0, .ref 76), (1, .int (nI d)), (2, .int (nI q)), (3, .int (nI (S.1.2.1 d 1))), (4, .int (nI (k_now (S.1.2.1 d)))), (5, .int (nI c)), (6, .int (nI 1))]) dX7_round_107 rfl (by decide) rfl ?_
              refine zV_iinc (y := (nI (c + 1))) (lv' := [(0, .ref 76), (1, .int (nI d)), (2, .int (nI q)), (3, .int (nI (S.1.2.1 d 1))), (4, .int (nI (k_now (S.1.2.1 d)))), (5, .int (nI (c + 1))), (6, .int (nI 1))]) dX7_round_109 rfl 5 rfl (nI_1 _) (by decide) rfl ?_
              refine zV_goto (tgt := 63) dX7_round_112 rfl ?_
              refine zV_iload dX7_round_63 rfl 5 rfl ?_
              refine zV_bipush (v := (nI 6)) dX7_round_65 rfl rfl ?_
              refine zN_icmp_ge (tgt := 115) dX7_round_67 rfl rfl (by omega) (by omega) (fun h67 => ?_) (fun h67 => ?_)
              · refine zV_aload_n dX7_round_115 rfl 0 rfl rfl ?_
                refine zV_iload dX7_round_116 rfl 6 rfl ?_
                refine zN_if_eq (tgt := 125) dX7_round_118 rfl rfl (by decide) (fun z => absurd z (by decide)) (fun _ => ?_)
                refine zV_iconst (v := (nI 1)) dX7_round_121 rfl rfl ?_
                refine zV_goto (tgt := 126) dX7_round_122 rfl ?_
                refine zV_callV (E' := eX7_putBack (g_rmv 1)) (av := [.int (nI 1)]) (st := []) (b := 76) dX7_round_126 rfl (k_RX7_211 _) rfl ⟨by decide, by decide⟩ ⟨by decide, by decide⟩ (Or.inl rfl) rfl (Nat.le_of_ble_eq_true rfl) rfl rfl rfl (m_putBack (x := (nI 1))) (fun r126 M126 z => ?_)
                obtain ⟨I126, rfl, rfl, hX126, hF126⟩ := z
                show zV G (eX7_round (g_rmv 5)) (0, 0) 129 [(0, .ref 76), (1, .int (nI d)), (2, .int (nI q)), (3, .int (nI (S.1.2.1 d 1))), (4, .int (nI (k_now (S.1.2.1 d)))), (5, .int (nI (c + 1))), (6, .int (nI 1))] [.int (nI 1)] (mm I126 J t) _
                refine zV_iconst (v := (nI 1)) dX7_round_129 rfl rfl ?_
                refine zN_icmp_ne (tgt := 138) dX7_round_130 rfl rfl (by decide) (by decide) (fun z => absurd z (by decide)) (fun _ => ?_)
                refine zV_iload dX7_round_133 rfl 5 rfl ?_
                refine zV_goto (tgt := 144) dX7_round_135 rfl ?_
                exact zV_ireturn dX7_round_144 rfl rfl (PM.back hM hw (by unfold op_round; rw [if_pos h5, tn_nI (show d < 2 ^ 31 by omega), if_pos (twoP_mk w1 (by omega) h22), tn_nI (show q < 2 ^ 31 by omega), fst_is (c := c) hc h1.2.2 (decide_eq_true h99), if_pos hc]) (fun j hj => by rw [hX126 j hj, hF89 79 (by decide), h1.2.1 79 (by decide), hX40 j hj]) (fun i h77 h79 => by rw [hF126 i h77, hF89 i h77, h1.2.1 i h77, hF40 i h79]))
              · refine zV_iload dX7_round_70 rfl 6 rfl ?_
                refine zN_if_ne (tgt := 115) dX7_round_72 rfl rfl (by decide) (fun _ => ?_) (fun z => absurd z (by decide))
                refine zV_aload_n dX7_round_115 rfl 0 rfl rfl ?_
                refine zV_iload dX7_round_116 rfl 6 rfl ?_
                refine zN_if_eq (tgt := 125) dX7_round_118 rfl rfl (by decide) (fun z => absurd z (by decide)) (fun _ => ?_)
                refine zV_iconst (v := (nI 1)) dX7_round_121 rfl rfl ?_
                refine zV_goto (tgt := 126) dX7_round_122 rfl ?_
                refine zV_callV (E' := eX7_putBack (g_rmv 1)) (av := [.int (nI 1)]) (st := []) (b := 76) dX7_round_126 rfl (k_RX7_211 _) rfl ⟨by decide, by decide⟩ ⟨by decide, by decide⟩ (Or.inl rfl) rfl (Nat.le_of_ble_eq_true rfl) rfl rfl rfl (m_putBack (x := (nI 1))) (fun r126 M126 z => ?_)
                obtain ⟨I126, rfl, rfl, hX126, hF126⟩ := z
                show zV G (eX7_round (g_rmv 5)) (0, 0) 129 [(0, .ref 76), (1, .int (nI d)), (2, .int (nI q)), (3, .int (nI (S.1.2.1 d 1))), (4, .int (nI (k_now (S.1.2.1 d)))), (5, .int (nI (c + 1))), (6, .int (nI 1))] [.int (nI 1)] (mm I126 J t) _
                refine zV_iconst (v := (nI 1)) dX7_round_129 rfl rfl ?_
                refine zN_icmp_ne (tgt := 138) dX7_round_130 rfl rfl (by decide) (by decide) (fun z => absurd z (by decide)) (fun _ => ?_)
                refine zV_iload dX7_round_133 rfl 5 rfl ?_
                refine zV_goto (tgt := 144) dX7_round_135 rfl ?_
                exact zV_ireturn dX7_round_144 rfl rfl (PM.back hM hw (by unfold op_round; rw [if_pos h5, tn_nI (show d < 2 ^ 31 by omega), if_pos (twoP_mk w1 (by omega) h22), tn_nI (show q < 2 ^ 31 by omega), fst_is (c := c) hc h1.2.2 (decide_eq_true h99), if_pos hc]) (fun j hj => by rw [hX126 j hj, hF89 79 (by decide), h1.2.1 79 (by decide), hX40 j hj]) (fun i h77 h79 => by rw [hF126 i h77, hF89 i h77, h1.2.1 i h77, hF40 i h79]))
      · refine zV_aload_n dX7_round_25 rfl 0 rfl rfl ?_
        refine zV_ldc (v := (-1000001)) dX7_round_26 rfl tw970 ?_
        refine zV_callV (E' := eX7_finding (g_rmv 0)) (av := [.int (-1000001)]) (st := []) (b := 76) dX7_round_28 rfl (k_RX7_87 _) rfl ⟨by decide, by decide⟩ ⟨by decide, by decide⟩ (Or.inl rfl) rfl (Nat.le_of_ble_eq_true rfl) rfl rfl rfl (m_finding (w := 0) (by decide) (by decide)) (fun r28 M28 z => ?_)
        obtain ⟨rfl, rfl⟩ := z
        show zV G (eX7_round (g_rmv 5)) (0, 0) 31 [(0, .ref 76), (1, .int (nI d)), (2, .int (nI q))] [.int (fdg 0)] (mm (mTell I 0) J t) _
        exact zV_ireturn dX7_round_31 rfl rfl (PM.tell hM (by decide) (by unfold op_round; rw [if_pos h5, tn_nI (show d < 2 ^ 31 by omega), if_neg (show ¬ twoP (nI (S.1.2.1 d 1)) (nI q) from fun z => z.2.2 (by rw [h22]))]) scM.rf)
