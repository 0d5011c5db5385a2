/-! THE CLASS: days, draws, tape, images, counts -/
set_option maxRecDepth 100000 in
theorem p_seed {G : mG} {I : Nat → Nat → Int32} {J : Nat → Nat → Int64} {t : Nat} {B : Nat} {S : aS} (hC : InvC I S) (hw : wfS B S) {x : Int32} : zC G yX6_seed (eX6_seed (g_rmv 0)) [.ref 0, .int x] (mm I J t) (fun r M => PC I (op_seed S x) r M) := by
  refine zC_of (by decide +kernel) rfl (by decide) (Nat.le_of_ble_eq_true rfl) ?_
  have n10 := hw.1.1
  show zV G (eX6_seed (g_rmv 0)) (0, 0) 0 [(0, .ref 0), (1, .int x)] [] (mm I J t) _
  refine zV_aload_n dX6_seed_0 rfl 0 rfl rfl ?_
  refine zV_getr (q' := 1) 0 dX6_seed_1 rfl fl_RX6_12 rfl (by decide) rfl rfl ?_
  refine zV_getI (x := S.1.2.2.2.2) 4 dX6_seed_4 rfl fl_RX6_241 (sh_land (Or.inl rfl)) (by decide) rfl hC.1.2.2.2.2 ?_
  refine zV_istore_n (lv' := [(0, .ref 0), (1, .int x), (2, .int S.1.2.2.2.2)]) dX6_seed_7 rfl rfl (by decide) rfl ?_
  refine zV_aload_n dX6_seed_8 rfl 0 rfl rfl ?_
  refine zV_getr (q' := 1) 0 dX6_seed_9 rfl fl_RX6_12 rfl (by decide) rfl rfl ?_
  refine zV_iload_n dX6_seed_12 rfl 1 rfl rfl ?_
  refine zV_puti 4 dX6_seed_13 rfl fl_RX6_241 (sh_land (Or.inl rfl)) (by decide) rfl rfl rfl ?_
  refine zV_iload_n dX6_seed_16 rfl 2 rfl rfl ?_
  exact zV_ireturn dX6_seed_17 rfl rfl (PC.land hC hw rfl (hC.1.z rfl) (frL.b (b := 1)).one)

set_option maxRecDepth 100000 in
theorem p_wipe {G : mG} {I : Nat → Nat → Int32} {J : Nat → Nat → Int64} {t : Nat} {B : Nat} {S : aS} (hC : InvC I S) (hw : wfS B S) : zC G yX6_wipe (eX6_wipe (g_rmv 0)) [.ref 0] (mm I J t) (fun r M => PC I (op_wipe S) r M) := by
  refine zC_of (by decide +kernel) rfl (by decide) (Nat.le_of_ble_eq_true rfl) ?_
  have n10 := hw.1.1
  show zV G (eX6_wipe (g_rmv 0)) (0, 0) 0 [(0, .ref 0)] [] (mm I J t) _
  refine zV_aload_n dX6_wipe_0 rfl 0 rfl rfl ?_
  refine zV_getI (x := (nI S.2.2.2.1.1)) 5 dX6_wipe_1 rfl fl_RX6_30 rfl (by decide) rfl hC.2.2.2.1 ?_
  refine zV_istore_n (lv' := [(0, .ref 0), (1, .int (nI S.2.2.2.1.1))]) dX6_wipe_4 rfl rfl (by decide) rfl ?_
  refine zV_aload_n dX6_wipe_5 rfl 0 rfl rfl ?_
  refine zV_iconst (v := (nI 0)) dX6_wipe_6 rfl rfl ?_
  refine zV_puti 5 dX6_wipe_7 rfl fl_RX6_30 rfl (by decide) rfl rfl rfl ?_
  refine zV_iload_n dX6_wipe_10 rfl 1 rfl rfl ?_
  exact zV_ireturn dX6_wipe_11 rfl rfl (⟨_, _, _, rfl, rfl, hC.tape0 hw, (fun i hi => by funext k; exact up2_ni (by omega))⟩)

set_option maxRecDepth 100000 in
theorem p_tear {G : mG} {I : Nat → Nat → Int32} {J : Nat → Nat → Int64} {t : Nat} {B : Nat} {S : aS} (hC : InvC I S) (hw : wfS B S) : zC G yX6_tear (eX6_tear (g_rmv 0)) [.ref 0] (mm I J t) (fun r M => PC I (op_tear S) r M) := by
  refine zC_of (by decide +kernel) rfl (by decide) (Nat.le_of_ble_eq_true rfl) ?_
  have n10 := hw.1.1
  have k1 := hw.2.1
  show zV G (eX6_tear (g_rmv 0)) (0, 0) 0 [(0, .ref 0)] [] (mm I J t) _
  refine zV_aload_n dX6_tear_0 rfl 0 rfl rfl ?_
  refine zV_getI (x := (nI S.2.1)) 3 dX6_tear_1 rfl fl_RX6_22 rfl (by decide) rfl hC.2.1 ?_
  refine zN_if_eq (tgt := 11) dX6_tear_4 rfl rfl (by omega) (fun h4 => ?_) (fun h4 => ?_)
  · refine zV_iconst (v := (nI 0)) dX6_tear_11 rfl rfl ?_
    refine zV_istore_n (lv' := [(0, .ref 0), (1, .int (nI 0))]) dX6_tear_12 rfl rfl (by decide) rfl ?_
    refine zV_aload_n dX6_tear_13 rfl 0 rfl rfl ?_
    refine zV_iconst (v := (nI 0)) dX6_tear_14 rfl rfl ?_
    refine zV_puti 3 dX6_tear_15 rfl fl_RX6_22 rfl (by decide) rfl rfl rfl ?_
    refine zV_iload_n dX6_tear_18 rfl 1 rfl rfl ?_
    exact zV_ireturn dX6_tear_19 rfl rfl (⟨_, _, _, by show some (Value.int (nI 0)) = some (.int (nI S.2.1)); rw [(show S.2.1 = 0 by omega)], rfl, hC.tear hw, (fun i hi => by funext k; exact up2_ni (by omega))⟩)
  · refine zV_iconst (v := (nI 1)) dX6_tear_7 rfl rfl ?_
    refine zV_goto (tgt := 12) dX6_tear_8 rfl ?_
    refine zV_istore_n (lv' := [(0, .ref 0), (1, .int (nI 1))]) dX6_tear_12 rfl rfl (by decide) rfl ?_
    refine zV_aload_n dX6_tear_13 rfl 0 rfl rfl ?_
    refine zV_iconst (v := (nI 0)) dX6_tear_14 rfl rfl ?_
    refine zV_puti 3 dX6_tear_15 rfl fl_RX6_22 rfl (by decide) rfl rfl rfl ?_
    refine zV_iload_n dX6_tear_18 rfl 1 rfl rfl ?_
    exact zV_ireturn dX6_tear_19 rfl rfl (⟨_, _, _, by show some (Value.int (nI 1)) = some (.int (nI S.2.1)); rw [(show S.2.1 = 1 by omega)], rfl, hC.tear hw, (fun i hi => by funext k; exact up2_ni (by omega))⟩)

set_option maxRecDepth 100000 in
theorem p_image {G : mG} {I : Nat → Nat → Int32} {J : Nat → Nat → Int64} {t : Nat} {B : Nat} {S : aS} (hC : InvC I S) (hw : wfS B S) : zC G yX6_image (eX6_image (g_rmv 2)) [.ref 0] (mm I J t) (fun r M => PC I (op_image S) r M) := by
  refine zC_of (by decide +kernel) rfl (by decide) (Nat.le_of_ble_eq_true rfl) ?_
  have n10 := hw.1.1
  show zV G (eX6_image (g_rmv 2)) (0, 0) 0 [(0, .ref 0)] [] (mm I J t) _
  refine zV_aload_n dX6_image_0 rfl 0 rfl rfl ?_
  refine zV_getr (q' := 27) 2 dX6_image_1 rfl fl_RX6_19 rfl (by decide) rfl rfl ?_
  refine zV_aload_n dX6_image_4 rfl 0 rfl rfl ?_
  refine zV_getr (q' := 1) 0 dX6_image_5 rfl fl_RX6_12 rfl (by decide) rfl rfl ?_
  refine zV_callV (E' := eX1_become (g_rmv 1)) (av := [.ref 1]) (st := []) (b := 27) dX6_image_8 rfl (k_RX6_191 _) rfl ⟨by decide, by decide⟩ ⟨by decide, by decide⟩ (Or.inl rfl) rfl (Nat.le_of_ble_eq_true rfl) (sh_land (Or.inr (Or.inr rfl))) rfl rfl (c_landBecome (Or.inl rfl) (Or.inr (Or.inr rfl)) (by decide) hC.1 hw.1) (fun r8 M8 z => ?_)
  obtain ⟨I8, rfl, rfl, hA8, hF8⟩ := z
  show zV G (eX6_image (g_rmv 2)) (0, 0) 11 [(0, .ref 0)] [] (mm I8 J t) _
  refine zV_aload_n dX6_image_11 rfl 0 rfl rfl ?_
  refine zV_iconst (v := (nI 1)) dX6_image_12 rfl rfl ?_
  refine zV_puti 3 dX6_image_13 rfl fl_RX6_22 rfl (by decide) rfl rfl rfl ?_
  refine zV_iconst (v := (nI 1)) dX6_image_16 rfl rfl ?_
  exact zV_ireturn dX6_image_17 rfl rfl (⟨_, _, _, rfl, rfl, hC.image hw hA8 hF8, (fun i hi => by rw [← hF8 i (by omega)]; funext k; exact up2_ni (by omega))⟩)

set_option maxRecDepth 100000 in
theorem p_undo {G : mG} {I : Nat → Nat → Int32} {J : Nat → Nat → Int64} {t : Nat} {B : Nat} {S : aS} (hC : InvC I S) (hw : wfS B S) : zC G yX6_undo (eX6_undo (g_rmv 2)) [.ref 0] (mm I J t) (fun r M => PC I (op_undo S) r M) := by
  refine zC_of (by decide +kernel) rfl (by decide) (Nat.le_of_ble_eq_true rfl) ?_
  have n10 := hw.1.1
  have k1 := hw.2.1
  show zV G (eX6_undo (g_rmv 2)) (0, 0) 0 [(0, .ref 0)] [] (mm I J t) _
  refine zV_aload_n dX6_undo_0 rfl 0 rfl rfl ?_
  refine zV_getI (x := (nI S.2.1)) 3 dX6_undo_1 rfl fl_RX6_22 rfl (by decide) rfl hC.2.1 ?_
  refine zN_if_ne (tgt := 14) dX6_undo_4 rfl rfl (by omega) (fun h4 => ?_) (fun h4 => ?_)
  · refine zV_aload_n dX6_undo_14 rfl 0 rfl rfl ?_
    refine zV_getr (q' := 1) 0 dX6_undo_15 rfl fl_RX6_12 rfl (by decide) rfl rfl ?_
    refine zV_aload_n dX6_undo_18 rfl 0 rfl rfl ?_
    refine zV_getr (q' := 27) 2 dX6_undo_19 rfl fl_RX6_19 rfl (by decide) rfl rfl ?_
    refine zV_callV (E' := eX1_become (g_rmv 1)) (av := [.ref 27]) (st := []) (b := 1) dX6_undo_22 rfl (k_RX6_191 _) rfl ⟨by decide, by decide⟩ ⟨by decide, by decide⟩ (Or.inl rfl) rfl (Nat.le_of_ble_eq_true rfl) (sh_land (Or.inl rfl)) rfl rfl (c_landBecome (Or.inr (Or.inr rfl)) (Or.inl rfl) (by decide) (hC.2.2.1 (by omega)) (hw.2.2.1 (by omega))) (fun r22 M22 z => ?_)
    obtain ⟨I22, rfl, rfl, hA22, hF22⟩ := z
    show zV G (eX6_undo (g_rmv 2)) (0, 0) 25 [(0, .ref 0)] [] (mm I22 J t) _
    refine zV_aload_n dX6_undo_25 rfl 0 rfl rfl ?_
    refine zV_getr (q' := 1) 0 dX6_undo_26 rfl fl_RX6_12 rfl (by decide) rfl rfl ?_
    refine zV_getI (x := (nI S.2.2.1.2.2.2.1)) 3 dX6_undo_29 rfl fl_RX6_227 (sh_land (Or.inl rfl)) (by decide) rfl hA22.2.2.2.1 ?_
    exact zV_ireturn dX6_undo_32 rfl rfl (PC.land hC hw (by unfold op_undo; rw [if_neg h4]) hA22 hF22.one)
  · refine zV_aload_n dX6_undo_7 rfl 0 rfl rfl ?_
    refine zV_ldc (v := (-1000004)) dX6_undo_8 rfl tw424 ?_
    refine zV_callV (E' := eX6_tell (g_rmv 1)) (av := [.int (-1000004)]) (st := []) (b := 0) dX6_undo_10 rfl (k_RX6_70 _) rfl ⟨by decide, by decide⟩ ⟨by decide, by decide⟩ (Or.inl rfl) rfl (Nat.le_of_ble_eq_true rfl) rfl rfl rfl (c_tell (w := 3) (by decide) (by decide)) (fun r10 M10 z => ?_)
    obtain ⟨rfl, rfl⟩ := z
    show zV G (eX6_undo (g_rmv 2)) (0, 0) 13 [(0, .ref 0)] [.int (fdg 3)] (mm (up2 I 67 3 (I 67 3 + nI 1)) J t) _
    exact zV_ireturn dX6_undo_13 rfl rfl (PC.tell hC hw (by unfold op_undo; rw [if_pos h4]) (fun _ _ => rfl))

set_option maxRecDepth 100000 in
theorem p_count {G : mG} {I : Nat → Nat → Int32} {J : Nat → Nat → Int64} {t : Nat} {B : Nat} {S : aS} (hC : InvC I S) (hw : wfS B S) {x : Int32} : zC G yX6_count (eX6_count (g_rmv 4)) [.ref 0, .int x] (mm I J t) (fun r M => PC I (op_count S x) r M) := by
  refine zC_of (by decide +kernel) rfl (by decide) (Nat.le_of_ble_eq_true rfl) ?_
  have n10 := hw.1.1
  have p10 := z_p10 n10
  show zV G (eX6_count (g_rmv 4)) (0, 0) 0 [(0, .ref 0), (1, .int x)] [] (mm I J t) _
  refine zV_iload_n dX6_count_0 rfl 1 rfl rfl ?_
  refine zX_tbl (lo' := 0) (hi' := 7) (td := 117) dX6_count_1 rfl rfl (by decide) rfl (fun h1 => ?_) (fun i hi1 hi2 h1 => ?_)
  · refine zV_aload_n dX6_count_117 rfl 0 rfl rfl ?_
    refine zV_ldc (v := (-1000001)) dX6_count_118 rfl tw264 ?_
    refine zV_callV (E' := eX6_tell (g_rmv 1)) (av := [.int (-1000001)]) (st := []) (b := 0) dX6_count_120 rfl (k_RX6_70 _) rfl ⟨by decide, by decide⟩ ⟨by decide, by decide⟩ (Or.inl rfl) rfl (Nat.le_of_ble_eq_true rfl) rfl rfl rfl (c_tell (w := 0) (by decide) (by decide)) (fun r120 M120 z => ?_)
    obtain ⟨rfl, rfl⟩ := z
    show zV G (eX6_count (g_rmv 4)) (0, 0) 123 [(0, .ref 0), (1, .int x)] [.int (fdg 0)] (mm (up2 I 67 0 (I 67 0 + nI 1)) J t) _
    exact zV_ireturn dX6_count_123 rfl rfl (PC.tell hC hw (by unfold op_count; rw [if_neg (h1 0 (by decide) (by decide)), if_neg (h1 1 (by decide) (by decide)), if_neg (h1 2 (by decide) (by decide)), if_neg (h1 3 (by decide) (by decide)), if_neg (h1 4 (by decide) (by decide)), if_neg (h1 5 (by decide) (by decide)), if_neg (h1 6 (by decide) (by decide)), if_neg (h1 7 (by decide) (by decide))]) (fun _ _ => rfl))
  · rcases (show i = 0 ∨ i = 1 ∨ i = 2 ∨ i = 3 ∨ i = 4 ∨ i = 5 ∨ i = 6 ∨ i = 7 by omega) with rfl | rfl | rfl | rfl | rfl | rfl | rfl | rfl
    · refine ⟨_, 48, rfl, rfl, ?_⟩
      refine zV_aload_n dX6_count_48 rfl 0 rfl rfl ?_
      refine zV_getr (q' := 1) 0 dX6_count_49 rfl fl_RX6_12 rfl (by decide) rfl rfl ?_
      refine zV_getI (x := (nI S.1.2.2.2.1)) 3 dX6_count_52 rfl fl_RX6_227 (sh_land (Or.inl rfl)) (by decide) rfl hC.1.2.2.2.1 ?_
      exact zV_ireturn dX6_count_55 rfl rfl (PC.same hC hw (by subst h1; unfold op_count; rw [if_pos rfl]) (fun _ _ => rfl))
    · refine ⟨_, 56, rfl, rfl, ?_⟩
      refine zV_aload_n dX6_count_56 rfl 0 rfl rfl ?_
      refine zV_getr (q' := 1) 0 dX6_count_57 rfl fl_RX6_12 rfl (by decide) rfl rfl ?_
      refine zV_getI (x := (nI S.1.1)) 2 dX6_count_60 rfl fl_RX6_74 (sh_land (Or.inl rfl)) (by decide) rfl hC.1.1 ?_
      exact zV_ireturn dX6_count_63 rfl rfl (PC.same hC hw (by subst h1; unfold op_count; rw [if_neg (show ¬ nI 1 = nI 0 by decide), if_pos rfl]) (fun _ _ => rfl))
    · refine ⟨_, 64, rfl, rfl, ?_⟩
      refine zV_aload_n dX6_count_64 rfl 0 rfl rfl ?_
      refine zV_getr (q' := 1) 0 dX6_count_65 rfl fl_RX6_12 rfl (by decide) rfl rfl ?_
      refine zV_aload_n dX6_count_68 rfl 0 rfl rfl ?_
      refine zV_getr (q' := 1) 0 dX6_count_69 rfl fl_RX6_12 rfl (by decide) rfl rfl ?_
      refine zV_callV (E' := eX1_allCoins (g_rmv 0)) (av := []) (st := [.ref 1]) (b := 1) dX6_count_72 rfl (k_RX6_298 _) rfl ⟨by decide, by decide⟩ ⟨by decide, by decide⟩ (Or.inl rfl) rfl (Nat.le_of_ble_eq_true rfl) (sh_land (Or.inl rfl)) rfl rfl (c_allCoins (Or.inl rfl) hC.1 hw.1) (fun r72 M72 z => ?_)
      obtain ⟨rfl, rfl⟩ := z
      show zV G (eX6_count (g_rmv 4)) (0, 0) 75 [(0, .ref 0), (1, .int x)] [.int (nI (2 ^ S.1.1 - 1)), .ref 1] (mm I J t) _
      refine zV_callV (E' := eX1_worthOf (g_rmv 3)) (av := [.int (nI (2 ^ S.1.1 - 1))]) (st := []) (b := 1) dX6_count_75 rfl (k_RX6_130 _) rfl ⟨by decide, by decide⟩ ⟨by decide, by decide⟩ (Or.inl rfl) rfl (Nat.le_of_ble_eq_true rfl) (sh_land (Or.inl rfl)) rfl rfl (c_worthOf (s := (2 ^ S.1.1 - 1)) (Or.inl rfl) hC.1 hw.1 (by omega)) (fun r75 M75 z => ?_)
      obtain ⟨rfl, rfl⟩ := z
      show zV G (eX6_count (g_rmv 4)) (0, 0) 78 [(0, .ref 0), (1, .int x)] [.int (nI (ld_sum S.1 (2 ^ S.1.1 - 1)))] (mm I J t) _
      exact zV_ireturn dX6_count_78 rfl rfl (PC.same hC hw (by subst h1; unfold op_count; rw [if_neg (show ¬ nI 2 = nI 0 by decide), if_neg (show ¬ nI 2 = nI 1 by decide), if_pos rfl]) (fun _ _ => rfl))
    · refine ⟨_, 79, rfl, rfl, ?_⟩
      refine zV_aload_n dX6_count_79 rfl 0 rfl rfl ?_
      refine zV_getr (q' := 1) 0 dX6_count_80 rfl fl_RX6_12 rfl (by decide) rfl rfl ?_
      refine zV_callV (E' := eX1_turnsOfAll (g_rmv 0)) (av := []) (st := []) (b := 1) dX6_count_83 rfl (k_RX6_301 _) rfl ⟨by decide, by decide⟩ ⟨by decide, by decide⟩ (Or.inl rfl) rfl (Nat.le_of_ble_eq_true rfl) (sh_land (Or.inl rfl)) rfl rfl (c_turnsOfAll (Or.inl rfl) hC.1 hw.1) (fun r83 M83 z => ?_)
      obtain ⟨rfl, rfl⟩ := z
      show zV G (eX6_count (g_rmv 4)) (0, 0) 86 [(0, .ref 0), (1, .int x)] [.int (nI (ld_turns S.1))] (mm I J t) _
      exact zV_ireturn dX6_count_86 rfl rfl (PC.same hC hw (by subst h1; unfold op_count; rw [if_neg (show ¬ nI 3 = nI 0 by decide), if_neg (show ¬ nI 3 = nI 1 by decide), if_neg (show ¬ nI 3 = nI 2 by decide), if_pos rfl]) (fun _ _ => rfl))
    · refine ⟨_, 87, rfl, rfl, ?_⟩
      refine zV_aload_n dX6_count_87 rfl 0 rfl rfl ?_
      refine zV_getr (q' := 1) 0 dX6_count_88 rfl fl_RX6_12 rfl (by decide) rfl rfl ?_
      refine zV_iconst (v := (nI 0)) dX6_count_91 rfl rfl ?_
      refine zV_callV (E' := eX1_coinsLying (g_rmv 0)) (av := [.int (nI 0)]) (st := []) (b := 1) dX6_count_92 rfl (k_RX6_133 _) rfl ⟨by decide, by decide⟩ ⟨by decide, by decide⟩ (Or.inl rfl) rfl (Nat.le_of_ble_eq_true rfl) (sh_land (Or.inl rfl)) rfl rfl (c_coinsLying (p := 0) (Or.inl rfl) hC.1 hw.1 (by decide)) (fun r92 M92 z => ?_)
      obtain ⟨rfl, rfl⟩ := z
      show zV G (eX6_count (g_rmv 4)) (0, 0) 95 [(0, .ref 0), (1, .int x)] [.int (nI (ld_ly S.1 0))] (mm I J t) _
      exact zV_ireturn dX6_count_95 rfl rfl (PC.same hC hw (by subst h1; unfold op_count; rw [if_neg (show ¬ nI 4 = nI 0 by decide), if_neg (show ¬ nI 4 = nI 1 by decide), if_neg (show ¬ nI 4 = nI 2 by decide), if_neg (show ¬ nI 4 = nI 3 by decide), if_pos rfl]) (fun _ _ => rfl))
    · refine ⟨_, 96, rfl, rfl, ?_⟩
      refine zV_aload_n dX6_count_96 rfl 0 rfl rfl ?_
      refine zV_getI (x := (nI S.2.2.2.1.1)) 5 dX6_count_97 rfl fl_RX6_30 rfl (by decide) rfl hC.2.2.2.1 ?_
      exact zV_ireturn dX6_count_100 rfl rfl (PC.same hC hw (by subst h1; unfold op_count; rw [if_neg (show ¬ nI 5 = nI 0 by decide), if_neg (show ¬ nI 5 = nI 1 by decide), if_neg (show ¬ nI 5 = nI 2 by decide), if_neg (show ¬ nI 5 = nI 3 by decide), if_neg (show ¬ nI 5 = nI 4 by decide), if_pos rfl]) (fun _ _ => rfl))
    · refine ⟨_, 101, rfl, rfl, ?_⟩
      refine zV_aload_n dX6_count_101 rfl 0 rfl rfl ?_
      refine zV_getr (q' := 1) 0 dX6_count_102 rfl fl_RX6_12 rfl (by decide) rfl rfl ?_
      refine zV_getI (x := S.1.2.2.2.2) 4 dX6_count_105 rfl fl_RX6_241 (sh_land (Or.inl rfl)) (by decide) rfl hC.1.2.2.2.2 ?_
      exact zV_ireturn dX6_count_108 rfl rfl (PC.same hC hw (by subst h1; unfold op_count; rw [if_neg (show ¬ nI 6 = nI 0 by decide), if_neg (show ¬ nI 6 = nI 1 by decide), if_neg (show ¬ nI 6 = nI 2 by decide), if_neg (show ¬ nI 6 = nI 3 by decide), if_neg (show ¬ nI 6 = nI 4 by decide), if_neg (show ¬ nI 6 = nI 5 by decide), if_pos rfl]) (fun _ _ => rfl))
    · refine ⟨_, 109, rfl, rfl, ?_⟩
      refine zV_aload_n dX6_count_109 rfl 0 rfl rfl ?_
      refine zV_getr (q' := 1) 0 dX6_count_110 rfl fl_RX6_12 rfl (by decide) rfl rfl ?_
      refine zV_callV (E' := eX1_spotsHeld (g_rmv 0)) (av := []) (st := []) (b := 1) dX6_count_113 rfl (k_RX6_304 _) rfl ⟨by decide, by decide⟩ ⟨by decide, by decide⟩ (Or.inl rfl) rfl (Nat.le_of_ble_eq_true rfl) (sh_land (Or.inl rfl)) rfl rfl (c_spotsHeld (Or.inl rfl) hC.1 hw.1) (fun r113 M113 z => ?_)
      obtain ⟨rfl, rfl⟩ := z
      show zV G (eX6_count (g_rmv 4)) (0, 0) 116 [(0, .ref 0), (1, .int x)] [.int (nI (ld_held S.1))] (mm I J t) _
      exact zV_ireturn dX6_count_116 rfl rfl (PC.same hC hw (by subst h1; unfold op_count; rw [if_neg (show ¬ nI 7 = nI 0 by decide), if_neg (show ¬ nI 7 = nI 1 by decide), if_neg (show ¬ nI 7 = nI 2 by decide), if_neg (show ¬ nI 7 = nI 3 by decide), if_neg (show ¬ nI 7 = nI 4 by decide), if_neg (show ¬ nI 7 = nI 5 by decide), if_neg (show ¬ nI 7 = nI 6 by decide), if_pos rfl]) (fun _ _ => rfl))

set_option maxRecDepth 100000 in
theorem p_days {G : mG} {I : Nat → Nat → Int32} {J : Nat → Nat → Int64} {t : Nat} {B : Nat} {S : aS} (hC : InvC I S) (hw : wfS B S) (hB : B + 120 < 1000000) {x : Int32} : zC G yX6_days (eX6_days (g_rmv 4)) [.ref 0, .int x] (mm I J t) (fun r M => PC I (op_days S x) r M) := by
  refine zC_of (by decide +kernel) rfl (by decide) (Nat.le_of_ble_eq_true rfl) ?_
  have n10 := hw.1.1
  have d9 := hw.1.2.2.1
  show zV G (eX6_days (g_rmv 4)) (0, 0) 0 [(0, .ref 0), (1, .int x)] [] (mm I J t) _
  refine zV_iload_n dX6_days_0 rfl 1 rfl rfl ?_
  refine zV_iconst (v := (nI 1)) dX6_days_1 rfl rfl ?_
  refine zV_icmp_lt (tgt := 11) dX6_days_2 rfl rfl  (fun h2 => ?_) (fun h2 => ?_)
  · refine zV_aload_n dX6_days_11 rfl 0 rfl rfl ?_
    refine zV_ldc (v := (-1000001)) dX6_days_12 rfl tw264 ?_
    refine zV_callV (E' := eX6_tell (g_rmv 1)) (av := [.int (-1000001)]) (st := []) (b := 0) dX6_days_14 rfl (k_RX6_70 _) rfl ⟨by decide, by decide⟩ ⟨by decide, by decide⟩ (Or.inl rfl) rfl (Nat.le_of_ble_eq_true rfl) rfl rfl rfl (c_tell (w := 0) (by decide) (by decide)) (fun r14 M14 z => ?_)
    obtain ⟨rfl, rfl⟩ := z
    show zV G (eX6_days (g_rmv 4)) (0, 0) 17 [(0, .ref 0), (1, .int x)] [.int (fdg 0)] (mm (up2 I 67 0 (I 67 0 + nI 1)) J t) _
    exact zV_ireturn dX6_days_17 rfl rfl (PC.tell hC hw (by unfold op_days; rw [if_neg (show ¬ (nI 1 ≤ x ∧ x ≤ nI 60) from fun q => (Int32.not_le.mpr h2) q.1)]) (fun _ _ => rfl))
  · refine zV_iload_n dX6_days_5 rfl 1 rfl rfl ?_
    refine zV_bipush (v := (nI 60)) dX6_days_6 rfl rfl ?_
    refine zV_icmp_le (tgt := 18) dX6_days_8 rfl rfl  (fun h8 => ?_) (fun h8 => ?_)
    · obtain ⟨n, hn1, hn2, rfl⟩ := z_rng (by decide) (by decide) (show nI 1 ≤ x ∧ x ≤ nI 60 from ⟨Int32.not_lt.mp h2, h8⟩)
      refine zV_aload_n dX6_days_18 rfl 0 rfl rfl ?_
      refine zV_getr (q' := 1) 0 dX6_days_19 rfl fl_RX6_12 rfl (by decide) rfl rfl ?_
      refine zV_getI (x := (nI S.1.2.2.2.1)) 3 dX6_days_22 rfl fl_RX6_227 (sh_land (Or.inl rfl)) (by decide) rfl hC.1.2.2.2.1 ?_
      refine zV_iload_n dX6_days_25 rfl 1 rfl rfl ?_
      refine zA_iadd (z := (nI (S.1.2.2.2.1 + n))) dX6_days_26 rfl  (nI_add _ _) ?_
      refine zV_sipush (v := (nI 999)) dX6_days_27 rfl rfl ?_
      refine zN_icmp_le (tgt := 40) dX6_days_30 rfl rfl (by omega) (by omega) (fun h30 => ?_) (fun h30 => ?_)
      · refine zV_aload_n dX6_days_40 rfl 0 rfl rfl ?_
        refine zV_getr (q' := 1) 0 dX6_days_41 rfl fl_RX6_12 rfl (by decide) rfl rfl ?_
        refine zV_iload_n dX6_days_44 rfl 1 rfl rfl ?_
        refine zV_callV (E' := eX1_passDays (g_rmv 3)) (av := [.int (nI n)]) (st := []) (b := 1) dX6_days_45 rfl (k_RX6_230 _) rfl ⟨by decide, by decide⟩ ⟨by decide, by decide⟩ (Or.inl rfl) rfl (Nat.le_of_ble_eq_true rfl) (sh_land (Or.inl rfl)) rfl rfl (c_passDays (n := n) (Or.inl rfl) hC.1 hw.1 (by omega) (by omega) (by omega)) (fun r45 M45 z => ?_)
        obtain ⟨I45, rfl, rfl, hA45, hF45⟩ := z
        show zV G (eX6_days (g_rmv 4)) (0, 0) 48 [(0, .ref 0), (1, .int (nI n))] [.int (nI (ld_daysN S.1 n))] (mm I45 J t) _
        exact zV_ireturn dX6_days_48 rfl rfl (PC.land hC hw (by unfold op_days; rw [if_pos (show nI 1 ≤ nI n ∧ nI n ≤ nI 60 from ⟨Int32.not_lt.mp h2, h8⟩), tn_nI (show n < 2 ^ 31 by omega), if_pos (show S.1.2.2.2.1 + n ≤ 999 by omega)]) hA45 hF45.one)
      · refine zV_aload_n dX6_days_33 rfl 0 rfl rfl ?_
        refine zV_ldc (v := (-1000005)) dX6_days_34 rfl tw370 ?_
        refine zV_callV (E' := eX6_tell (g_rmv 1)) (av := [.int (-1000005)]) (st := []) (b := 0) dX6_days_36 rfl (k_RX6_70 _) rfl ⟨by decide, by decide⟩ ⟨by decide, by decide⟩ (Or.inl rfl) rfl (Nat.le_of_ble_eq_true rfl) rfl rfl rfl (c_tell (w := 4) (by decide) (by decide)) (fun r36 M36 z => ?_)
        obtain ⟨rfl, rfl⟩ := z
        show zV G (eX6_days (g_rmv 4)) (0, 0) 39 [(0, .ref 0), (1, .int (nI n))] [.int (fdg 4)] (mm (up2 I 67 4 (I 67 4 + nI 1)) J t) _
        exact zV_ireturn dX6_days_39 rfl rfl (PC.tell hC hw (by unfold op_days; rw [if_pos (show nI 1 ≤ nI n ∧ nI n ≤ nI 60 from ⟨Int32.not_lt.mp h2, h8⟩), tn_nI (show n < 2 ^ 31 by omega), if_neg (show ¬ S.1.2.2.2.1 + n ≤ 999 by omega)]) (fun _ _ => rfl))
    · refine zV_aload_n dX6_days_11 rfl 0 rfl rfl ?_
      refine zV_ldc (v := (-1000001)) dX6_days_12 rfl tw264 ?_
      refine zV_callV (E' := eX6_tell (g_rmv 1)) (av := [.int (-1000001)]) (st := []) (b := 0) dX6_days_14 rfl (k_RX6_70 _) rfl ⟨by decide, by decide⟩ ⟨by decide, by decide⟩ (Or.inl rfl) rfl (Nat.le_of_ble_eq_true rfl) rfl rfl rfl (c_tell (w := 0) (by decide) (by decide)) (fun r14 M14 z => ?_)
      obtain ⟨rfl, rfl⟩ := z
      show zV G (eX6_days (g_rmv 4)) (0, 0) 17 [(0, .ref 0), (1, .int x)] [.int (fdg 0)] (mm (up2 I 67 0 (I 67 0 + nI 1)) J t) _
      exact zV_ireturn dX6_days_17 rfl rfl (PC.tell hC hw (by unfold op_days; rw [if_neg (show ¬ (nI 1 ≤ x ∧ x ≤ nI 60) from fun q => h8 q.2)]) (fun _ _ => rfl))

set_option maxRecDepth 100000 in
theorem p_ahead {G : mG} {I : Nat → Nat → Int32} {J : Nat → Nat → Int64} {t : Nat} {B : Nat} {S : aS} (hC : InvC I S) (hw : wfS B S) (hB : B + 120 < 1000000) {x y : Int32} : zC G yX6_ahead (eX6_ahead (g_rmv 4)) [.ref 0, .int x, .int y] (mm I J t) (fun r M => PC I (op_ahead S x y) r M) := by
  refine zC_of (by decide +kernel) rfl (by decide) (Nat.le_of_ble_eq_true rfl) ?_
  have n10 := hw.1.1
  have d9 := hw.1.2.2.1
  show zV G (eX6_ahead (g_rmv 4)) (0, 0) 0 [(0, .ref 0), (1, .int x), (2, .int y)] [] (mm I J t) _
  refine zV_iload_n dX6_ahead_0 rfl 1 rfl rfl ?_
  refine zV_callS (E' := eX6_isPurse (g_rmv 1)) (av := [.int x]) (st := []) dX6_ahead_1 rfl (k_RX6_124 _) rfl ⟨by decide, by decide⟩ ⟨by decide, by decide⟩ (Or.inl rfl) rfl (Nat.le_of_ble_eq_true rfl) (c_isPurse (x := x)) (fun r1 M1 z => ?_)
  obtain ⟨rfl, rfl⟩ := z
  show zV G (eX6_ahead (g_rmv 4)) (0, 0) 4 [(0, .ref 0), (1, .int x), (2, .int y)] [.int (b2 (inR x 3))] (mm I J t) _
  refine zB_if_eq (tgt := 16) dX6_ahead_4 rfl rfl  (fun h4 => ?_) (fun h4 => ?_)
  · refine zV_aload_n dX6_ahead_16 rfl 0 rfl rfl ?_
    refine zV_ldc (v := (-1000001)) dX6_ahead_17 rfl tw264 ?_
    refine zV_callV (E' := eX6_tell (g_rmv 1)) (av := [.int (-1000001)]) (st := []) (b := 0) dX6_ahead_19 rfl (k_RX6_70 _) rfl ⟨by decide, by decide⟩ ⟨by decide, by decide⟩ (Or.inl rfl) rfl (Nat.le_of_ble_eq_true rfl) rfl rfl rfl (c_tell (w := 0) (by decide) (by decide)) (fun r19 M19 z => ?_)
    obtain ⟨rfl, rfl⟩ := z
    show zV G (eX6_ahead (g_rmv 4)) (0, 0) 22 [(0, .ref 0), (1, .int x), (2, .int y)] [.int (fdg 0)] (mm (up2 I 67 0 (I 67 0 + nI 1)) J t) _
    exact zV_ireturn dX6_ahead_22 rfl rfl (PC.tell hC hw (by unfold op_ahead; rw [if_neg h4]) (fun _ _ => rfl))
  · refine zV_iload_n dX6_ahead_7 rfl 2 rfl rfl ?_
    refine zV_bipush (v := (nI 60)) dX6_ahead_8 rfl rfl ?_
    refine zV_callS (E' := eX6_isWithin (g_rmv 0)) (av := [.int y, .int (nI 60)]) (st := []) dX6_ahead_10 rfl (k_RX6_65 _) rfl ⟨by decide, by decide⟩ ⟨by decide, by decide⟩ (Or.inl rfl) rfl (Nat.le_of_ble_eq_true rfl) (c_isWithin (x := y) (y := (nI 60))) (fun r10 M10 z => ?_)
    obtain ⟨rfl, rfl⟩ := z
    show zV G (eX6_ahead (g_rmv 4)) (0, 0) 13 [(0, .ref 0), (1, .int x), (2, .int y)] [.int (b2 (0 ≤ y ∧ y ≤ (nI 60)))] (mm I J t) _
    refine zB_if_ne (tgt := 23) dX6_ahead_13 rfl rfl  (fun h13 => ?_) (fun h13 => ?_)
    · obtain ⟨p, hp, rfl⟩ := (inR_iff (by decide)).mp h4
      obtain ⟨n, hn, rfl⟩ := (inR_iff (by decide)).mp h13
      refine zV_aload_n dX6_ahead_23 rfl 0 rfl rfl ?_
      refine zV_getr (q' := 1) 0 dX6_ahead_24 rfl fl_RX6_12 rfl (by decide) rfl rfl ?_
      refine zV_getI (x := (nI S.1.2.2.2.1)) 3 dX6_ahead_27 rfl fl_RX6_227 (sh_land (Or.inl rfl)) (by decide) rfl hC.1.2.2.2.1 ?_
      refine zV_iload_n dX6_ahead_30 rfl 2 rfl rfl ?_
      refine zA_iadd (z := (nI (S.1.2.2.2.1 + n))) dX6_ahead_31 rfl  (nI_add _ _) ?_
      refine zV_sipush (v := (nI 999)) dX6_ahead_32 rfl rfl ?_
      refine zN_icmp_le (tgt := 45) dX6_ahead_35 rfl rfl (by omega) (by omega) (fun h35 => ?_) (fun h35 => ?_)
      · refine zV_aload_n dX6_ahead_45 rfl 0 rfl rfl ?_
        refine zV_getr (q' := 14) 1 dX6_ahead_46 rfl fl_RX6_16 rfl (by decide) rfl rfl ?_
        refine zV_aload_n dX6_ahead_49 rfl 0 rfl rfl ?_
        refine zV_getr (q' := 1) 0 dX6_ahead_50 rfl fl_RX6_12 rfl (by decide) rfl rfl ?_
        refine zV_callV (E' := eX1_become (g_rmv 1)) (av := [.ref 1]) (st := []) (b := 14) dX6_ahead_53 rfl (k_RX6_191 _) rfl ⟨by decide, by decide⟩ ⟨by decide, by decide⟩ (Or.inl rfl) rfl (Nat.le_of_ble_eq_true rfl) (sh_land (Or.inr (Or.inl rfl))) rfl rfl (c_landBecome (Or.inl rfl) (Or.inr (Or.inl rfl)) (by decide) hC.1 hw.1) (fun r53 M53 z => ?_)
        obtain ⟨I53, rfl, rfl, hA53, hF53⟩ := z
        show zV G (eX6_ahead (g_rmv 4)) (0, 0) 56 [(0, .ref 0), (1, .int (nI p)), (2, .int (nI n))] [] (mm I53 J t) _
        refine zV_aload_n dX6_ahead_56 rfl 0 rfl rfl ?_
        refine zV_getr (q' := 14) 1 dX6_ahead_57 rfl fl_RX6_16 rfl (by decide) rfl rfl ?_
        refine zV_iload_n dX6_ahead_60 rfl 2 rfl rfl ?_
        refine zV_callV (E' := eX1_passDays (g_rmv 3)) (av := [.int (nI n)]) (st := []) (b := 14) dX6_ahead_61 rfl (k_RX6_230 _) rfl ⟨by decide, by decide⟩ ⟨by decide, by decide⟩ (Or.inl rfl) rfl (Nat.le_of_ble_eq_true rfl) (sh_land (Or.inr (Or.inl rfl))) rfl rfl (c_passDays (n := n) (Or.inr (Or.inl rfl)) hA53 hw.1 (by omega) (by omega) (by omega)) (fun r61 M61 z => ?_)
        obtain ⟨I61, rfl, rfl, hA61, hF61⟩ := z
        have hW61 := wf_days hw.1 n (by omega) (by omega)
        have e61 := ld_days_n S.1 n
        show zV G (eX6_ahead (g_rmv 4)) (0, 0) 64 [(0, .ref 0), (1, .int (nI p)), (2, .int (nI n))] [.int (nI (ld_daysN S.1 n))] (mm I61 J t) _
        refine zV_pop dX6_ahead_64 rfl rfl ?_
        refine zV_aload_n dX6_ahead_65 rfl 0 rfl rfl ?_
        refine zV_getr (q' := 14) 1 dX6_ahead_66 rfl fl_RX6_16 rfl (by decide) rfl rfl ?_
        refine zV_aload_n dX6_ahead_69 rfl 0 rfl rfl ?_
        refine zV_getr (q' := 14) 1 dX6_ahead_70 rfl fl_RX6_16 rfl (by decide) rfl rfl ?_
        refine zV_iload_n dX6_ahead_73 rfl 1 rfl rfl ?_
        refine zV_callV (E' := eX1_coinsIn (g_rmv 0)) (av := [.int (nI p)]) (st := [.ref 14]) (b := 14) dX6_ahead_74 rfl (k_RX6_127 _) rfl ⟨by decide, by decide⟩ ⟨by decide, by decide⟩ (Or.inl rfl) rfl (Nat.le_of_ble_eq_true rfl) (sh_land (Or.inr (Or.inl rfl))) rfl rfl (c_coinsIn (p := p) (Or.inr (Or.inl rfl)) hA61 hW61 (by omega)) (fun r74 M74 z => ?_)
        obtain ⟨rfl, rfl⟩ := z
        show zV G (eX6_ahead (g_rmv 4)) (0, 0) 77 [(0, .ref 0), (1, .int (nI p)), (2, .int (nI n))] [.int (nI (ld_in (ld_days S.1 n) p)), .ref 14] (mm I61 J t) _
        refine zV_callV (E' := eX1_worthOf (g_rmv 3)) (av := [.int (nI (ld_in (ld_days S.1 n) p))]) (st := []) (b := 14) dX6_ahead_77 rfl (k_RX6_130 _) rfl ⟨by decide, by decide⟩ ⟨by decide, by decide⟩ (Or.inl rfl) rfl (Nat.le_of_ble_eq_true rfl) (sh_land (Or.inr (Or.inl rfl))) rfl rfl (c_worthOf (s := (ld_in (ld_days S.1 n) p)) (Or.inr (Or.inl rfl)) hA61 hW61 (Nat.lt_trans (ld_in_lt (by omega) _) (by decide))) (fun r77 M77 z => ?_)
        obtain ⟨rfl, rfl⟩ := z
        show zV G (eX6_ahead (g_rmv 4)) (0, 0) 80 [(0, .ref 0), (1, .int (nI p)), (2, .int (nI n))] [.int (nI (ld_sum (ld_days S.1 n) (ld_in (ld_days S.1 n) p)))] (mm I61 J t) _
        exact zV_ireturn dX6_ahead_80 rfl rfl (PC.same hC hw (by unfold op_ahead; rw [if_pos h4, if_pos h13, tn_nI (show n < 2 ^ 31 by omega), if_pos (show S.1.2.2.2.1 + n ≤ 999 by omega), tn_nI (show p < 2 ^ 31 by omega)]) (fun i hi => (hF61 i (by unfold scr at hi; omega)).trans (hF53 i (by unfold scr at hi; omega))))
      · refine zV_aload_n dX6_ahead_38 rfl 0 rfl rfl ?_
        refine zV_ldc (v := (-1000005)) dX6_ahead_39 rfl tw370 ?_
        refine zV_callV (E' := eX6_tell (g_rmv 1)) (av := [.int (-1000005)]) (st := []) (b := 0) dX6_ahead_41 rfl (k_RX6_70 _) rfl ⟨by decide, by decide⟩ ⟨by decide, by decide⟩ (Or.inl rfl) rfl (Nat.le_of_ble_eq_true rfl) rfl rfl rfl (c_tell (w := 4) (by decide) (by decide)) (fun r41 M41 z => ?_)
        obtain ⟨rfl, rfl⟩ := z
        show zV G (eX6_ahead (g_rmv 4)) (0, 0) 44 [(0, .ref 0), (1, .int (nI p)), (2, .int (nI n))] [.int (fdg 4)] (mm (up2 I 67 4 (I 67 4 + nI 1)) J t) _
        exact zV_ireturn dX6_ahead_44 rfl rfl (PC.tell hC hw (by unfold op_ahead; rw [if_pos h4, if_pos h13, tn_nI (show n < 2 ^ 31 by omega), if_neg (show ¬ S.1.2.2.2.1 + n ≤ 999 by omega)]) (fun _ _ => rfl))
    · refine zV_aload_n dX6_ahead_16 rfl 0 rfl rfl ?_
      refine zV_ldc (v := (-1000001)) dX6_ahead_17 rfl tw264 ?_
      refine zV_callV (E' := eX6_tell (g_rmv 1)) (av := [.int (-1000001)]) (st := []) (b := 0) dX6_ahead_19 rfl (k_RX6_70 _) rfl ⟨by decide, by decide⟩ ⟨by decide, by decide⟩ (Or.inl rfl) rfl (Nat.le_of_ble_eq_true rfl) rfl rfl rfl (c_tell (w := 0) (by decide) (by decide)) (fun r19 M19 z => ?_)
      obtain ⟨rfl, rfl⟩ := z
      show zV G (eX6_ahead (g_rmv 4)) (0, 0) 22 [(0, .ref 0), (1, .int x), (2, .int y)] [.int (fdg 0)] (mm (up2 I 67 0 (I 67 0 + nI 1)) J t) _
      exact zV_ireturn dX6_ahead_22 rfl rfl (PC.tell hC hw (by unfold op_ahead; rw [if_pos h4, if_neg h13]) (fun _ _ => rfl))
