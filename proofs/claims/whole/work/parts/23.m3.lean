/-! THE REFERENCE: days, draws, tape, images, counts; change -/
set_option maxRecDepth 100000 in
theorem m_become {G : mG} {I : Nat → Nat → Int32} {J : Nat → Nat → Int64} {t : Nat} {a : Nat} {v : Int32} (ha : a < 73) : zC G yX7_become (eX7_become (g_rmv 0)) [.ref 76, .int (nI a), .int v] (mm I J t) (fun r M => r = some (.int (I 77 a)) ∧ M = mm (up2 I 77 a v) J t) := by
  refine zC_of (by decide +kernel) rfl (by decide) (Nat.le_of_ble_eq_true rfl) ?_
  show zV G (eX7_become (g_rmv 0)) (0, 0) 0 [(0, .ref 76), (1, .int (nI a)), (2, .int v)] [] (mm I J t) _
  refine zV_aload_n dX7_become_0 rfl 0 rfl rfl ?_
  refine zV_getr (q' := 77) 0 dX7_become_1 rfl fl_RX7_9 rfl (by decide) rfl rfl ?_
  refine zV_iload_n dX7_become_4 rfl 1 rfl rfl ?_
  refine zV_iald (x := (I 77 a)) a dX7_become_5 rfl rfl rfl (by omega) (by decide) rfl ?_
  refine zV_istore_n (lv' := [(0, .ref 76), (1, .int (nI a)), (2, .int v), (3, .int (I 77 a))]) dX7_become_6 rfl rfl (by decide) rfl ?_
  refine zV_aload_n dX7_become_7 rfl 0 rfl rfl ?_
  refine zV_getr (q' := 77) 0 dX7_become_8 rfl fl_RX7_9 rfl (by decide) rfl rfl ?_
  refine zV_iload_n dX7_become_11 rfl 1 rfl rfl ?_
  refine zV_iload_n dX7_become_12 rfl 2 rfl rfl ?_
  refine zV_iastore a dX7_become_13 rfl rfl rfl (by omega) (by decide)  ?_
  refine zV_iload_n dX7_become_14 rfl 3 rfl rfl ?_
  exact zV_ireturn dX7_become_15 rfl rfl (⟨rfl, rfl⟩)

set_option maxRecDepth 100000 in
theorem m_copyRow {G : mG} {I : Nat → Nat → Int32} {J : Nat → Nat → Int64} {t : Nat} {p q : Nat} (hp : sh0[p]? = some (1, 0, 73)) (hq : sh0[q]? = some (1, 0, 73)) (hpq : p ≠ q) : zC G yX7_copyRow (eX7_copyRow (g_rmv 0)) [.ref p, .ref q] (mm I J t) (fun r M => ∃ I', r = none ∧ M = mm I' J t ∧ (∀ j, j < 73 → I' q j = I p j) ∧ ∀ i, i ≠ q → I' i = I i) := by
  refine zC_of (by decide +kernel) rfl (by decide) (Nat.le_of_ble_eq_true rfl) ?_
  show zV G (eX7_copyRow (g_rmv 0)) (0, 0) 0 [(0, .ref p), (1, .ref q)] [] (mm I J t) _
  refine zV_iconst (v := (nI 0)) dX7_copyRow_0 rfl rfl ?_
  refine zV_istore_n (lv' := [(0, .ref p), (1, .ref q), (2, .int (nI 0))]) dX7_copyRow_1 rfl rfl (by decide) rfl ?_
  refine z_for (fun c => ∀ (I1 : Nat → Nat → Int32), ((∀ j, j < c → I1 q j = I p j) ∧ ∀ i, i ≠ q → I1 i = I i) → zV G (eX7_copyRow (g_rmv 0)) (0, 0) 2 [(0, .ref p), (1, .ref q), (2, .int (nI c))] [] (mm I1 J t) _) 73 ?_ ?_ 0 (Nat.zero_le _) I ⟨fun j h => absurd h (Nat.not_lt_zero _), fun _ _ => rfl⟩
  · intro I1 h1
    refine zV_iload_n dX7_copyRow_2 rfl 2 rfl rfl ?_
    refine zV_bipush (v := (nI 73)) dX7_copyRow_3 rfl rfl ?_
    refine zN_icmp_ge (tgt := 20) dX7_copyRow_5 rfl rfl (by omega) (by omega) (fun _ => ?_) (fun z => absurd z (by omega))
    exact zV_return dX7_copyRow_20 rfl (⟨I1, rfl, rfl, h1.1, h1.2⟩)
  · intro c hc ih
    intro I1 h1
    refine zV_iload_n dX7_copyRow_2 rfl 2 rfl rfl ?_
    refine zV_bipush (v := (nI 73)) dX7_copyRow_3 rfl rfl ?_
    refine zN_icmp_ge (tgt := 20) dX7_copyRow_5 rfl rfl (by omega) (by omega) (fun z => absurd z (by omega)) (fun _ => ?_)
    refine zV_aload_n dX7_copyRow_8 rfl 1 rfl rfl ?_
    refine zV_iload_n dX7_copyRow_9 rfl 2 rfl rfl ?_
    refine zV_aload_n dX7_copyRow_10 rfl 0 rfl rfl ?_
    refine zV_iload_n dX7_copyRow_11 rfl 2 rfl rfl ?_
    refine zV_iald (x := (I p c)) c dX7_copyRow_12 rfl hp rfl (by omega) (by decide) (by rw [h1.2 p hpq]) ?_
    refine zV_iastore c dX7_copyRow_13 rfl hq rfl (by omega) (by decide)  ?_
    refine zV_iinc (y := (nI (c + 1))) (lv' := [(0, .ref p), (1, .ref q), (2, .int (nI (c + 1)))]) dX7_copyRow_14 rfl 2 rfl (nI_1 _) (by decide) rfl ?_
    refine zV_goto (tgt := 2) dX7_copyRow_17 rfl ?_
    exact ih _ ⟨fun j hj => by (by_cases e : j = c); (· rw [e, up2_same]); (· rw [up2_nk e]; exact h1.1 j (by omega)), fun i hi => by rw [← h1.2 i hi]; funext b; exact up2_ni hi⟩

set_option maxRecDepth 100000 in
theorem m_putBack {G : mG} {I : Nat → Nat → Int32} {J : Nat → Nat → Int64} {t : Nat} {x : Int32} : zC G yX7_putBack (eX7_putBack (g_rmv 1)) [.ref 76, .int x] (mm I J t) (fun r M => ∃ I', r = some (.int x) ∧ M = mm I' J t ∧ (∀ j, j < 73 → I' 77 j = I 79 j) ∧ ∀ i, i ≠ 77 → I' i = I i) := by
  refine zC_of (by decide +kernel) rfl (by decide) (Nat.le_of_ble_eq_true rfl) ?_
  show zV G (eX7_putBack (g_rmv 1)) (0, 0) 0 [(0, .ref 76), (1, .int x)] [] (mm I J t) _
  refine zV_aload_n dX7_putBack_0 rfl 0 rfl rfl ?_
  refine zV_getr (q' := 79) 2 dX7_putBack_1 rfl fl_RX7_16 rfl (by decide) rfl rfl ?_
  refine zV_aload_n dX7_putBack_4 rfl 0 rfl rfl ?_
  refine zV_getr (q' := 77) 0 dX7_putBack_5 rfl fl_RX7_9 rfl (by decide) rfl rfl ?_
  refine zV_callS (E' := eX7_copyRow (g_rmv 0)) (av := [.ref 79, .ref 77]) (st := []) dX7_putBack_8 rfl (k_RX7_68 _) rfl ⟨by decide, by decide⟩ ⟨by decide, by decide⟩ (Or.inl rfl) rfl (Nat.le_of_ble_eq_true rfl) (m_copyRow rfl rfl (by decide)) (fun r8 M8 z => ?_)
  obtain ⟨I8, rfl, rfl, hX8, hF8⟩ := z
  show zV G (eX7_putBack (g_rmv 1)) (0, 0) 11 [(0, .ref 76), (1, .int x)] [] (mm I8 J t) _
  refine zV_iload_n dX7_putBack_11 rfl 1 rfl rfl ?_
  exact zV_ireturn dX7_putBack_12 rfl rfl (⟨_, rfl, rfl, hX8, hF8⟩)

set_option maxRecDepth 100000 in
theorem q_seed {G : mG} {I : Nat → Nat → Int32} {J : Nat → Nat → Int64} {t : Nat} {B : Nat} {S : aS} (hM : InvM I S) (hw : wfS B S) {x : Int32} : zC G yX7_seed (eX7_seed (g_rmv 1)) [.ref 76, .int x] (mm I J t) (fun r M => PM I (op_seed S x) r M) := by
  refine zC_of (by decide +kernel) rfl (by decide) (Nat.le_of_ble_eq_true rfl) ?_
  show zV G (eX7_seed (g_rmv 1)) (0, 0) 0 [(0, .ref 76), (1, .int x)] [] (mm I J t) _
  refine zV_aload_n dX7_seed_0 rfl 0 rfl rfl ?_
  refine zV_iconst (v := (nI 2)) dX7_seed_1 rfl rfl ?_
  refine zV_iload_n dX7_seed_2 rfl 1 rfl rfl ?_
  refine zV_callV (E' := eX7_become (g_rmv 0)) (av := [.int (nI 2), .int x]) (st := []) (b := 76) dX7_seed_3 rfl (k_RX7_130 _) rfl ⟨by decide, by decide⟩ ⟨by decide, by decide⟩ (Or.inl rfl) rfl (Nat.le_of_ble_eq_true rfl) rfl rfl rfl (m_become (a := 2) (v := x) (by omega)) (fun r3 M3 z => ?_)
  obtain ⟨rfl, rfl⟩ := z
  show zV G (eX7_seed (g_rmv 1)) (0, 0) 6 [(0, .ref 76), (1, .int x)] [.int (I 77 2)] (mm (up2 I 77 2 x) J t) _
  exact zV_ireturn dX7_seed_6 rfl rfl (PM.land hM (by unfold op_seed; rw [hM.1.2.2.1]) scM.rf hM.1.z frM.up)

set_option maxRecDepth 100000 in
theorem q_wipe {G : mG} {I : Nat → Nat → Int32} {J : Nat → Nat → Int64} {t : Nat} {B : Nat} {S : aS} (hM : InvM I S) (hw : wfS B S) : zC G yX7_wipe (eX7_wipe (g_rmv 0)) [.ref 76] (mm I J t) (fun r M => PM I (op_wipe S) r M) := by
  refine zC_of (by decide +kernel) rfl (by decide) (Nat.le_of_ble_eq_true rfl) ?_
  have n10 := hw.1.1
  show zV G (eX7_wipe (g_rmv 0)) (0, 0) 0 [(0, .ref 76)] [] (mm I J t) _
  refine zV_aload_n dX7_wipe_0 rfl 0 rfl rfl ?_
  refine zV_getI (x := (nI S.2.2.2.1.1)) 10 dX7_wipe_1 rfl fl_RX7_227 rfl (by decide) rfl hM.2.2.2.1 ?_
  refine zV_istore_n (lv' := [(0, .ref 76), (1, .int (nI S.2.2.2.1.1))]) dX7_wipe_4 rfl rfl (by decide) rfl ?_
  refine zV_aload_n dX7_wipe_5 rfl 0 rfl rfl ?_
  refine zV_iconst (v := (nI 0)) dX7_wipe_6 rfl rfl ?_
  refine zV_puti 10 dX7_wipe_7 rfl fl_RX7_227 rfl (by decide) rfl rfl rfl ?_
  refine zV_iload_n dX7_wipe_10 rfl 1 rfl rfl ?_
  exact zV_ireturn dX7_wipe_11 rfl rfl (⟨_, _, _, rfl, rfl, hM.tape0, (fun i hi => by funext k; exact up2_ni (by omega))⟩)

set_option maxRecDepth 100000 in
theorem q_tear {G : mG} {I : Nat → Nat → Int32} {J : Nat → Nat → Int64} {t : Nat} {B : Nat} {S : aS} (hM : InvM I S) (hw : wfS B S) : zC G yX7_tear (eX7_tear (g_rmv 0)) [.ref 76] (mm I J t) (fun r M => PM I (op_tear S) r M) := by
  refine zC_of (by decide +kernel) rfl (by decide) (Nat.le_of_ble_eq_true rfl) ?_
  have n10 := hw.1.1
  have k1 := hw.2.1
  show zV G (eX7_tear (g_rmv 0)) (0, 0) 0 [(0, .ref 76)] [] (mm I J t) _
  refine zV_aload_n dX7_tear_0 rfl 0 rfl rfl ?_
  refine zV_getI (x := (nI S.2.1)) 3 dX7_tear_1 rfl fl_RX7_315 rfl (by decide) rfl hM.2.1 ?_
  refine zN_if_eq (tgt := 11) dX7_tear_4 rfl rfl (by omega) (fun h4 => ?_) (fun h4 => ?_)
  · refine zV_iconst (v := (nI 0)) dX7_tear_11 rfl rfl ?_
    refine zV_istore_n (lv' := [(0, .ref 76), (1, .int (nI 0))]) dX7_tear_12 rfl rfl (by decide) rfl ?_
    refine zV_aload_n dX7_tear_13 rfl 0 rfl rfl ?_
    refine zV_iconst (v := (nI 0)) dX7_tear_14 rfl rfl ?_
    refine zV_puti 3 dX7_tear_15 rfl fl_RX7_315 rfl (by decide) rfl rfl rfl ?_
    refine zV_iload_n dX7_tear_18 rfl 1 rfl rfl ?_
    exact zV_ireturn dX7_tear_19 rfl rfl (⟨_, _, _, by show some (Value.int (nI 0)) = some (.int (nI S.2.1)); rw [(show S.2.1 = 0 by omega)], rfl, hM.tear, (fun i hi => by funext k; exact up2_ni (by omega))⟩)
  · refine zV_iconst (v := (nI 1)) dX7_tear_7 rfl rfl ?_
    refine zV_goto (tgt := 12) dX7_tear_8 rfl ?_
    refine zV_istore_n (lv' := [(0, .ref 76), (1, .int (nI 1))]) dX7_tear_12 rfl rfl (by decide) rfl ?_
    refine zV_aload_n dX7_tear_13 rfl 0 rfl rfl ?_
    refine zV_iconst (v := (nI 0)) dX7_tear_14 rfl rfl ?_
    refine zV_puti 3 dX7_tear_15 rfl fl_RX7_315 rfl (by decide) rfl rfl rfl ?_
    refine zV_iload_n dX7_tear_18 rfl 1 rfl rfl ?_
    exact zV_ireturn dX7_tear_19 rfl rfl (⟨_, _, _, by show some (Value.int (nI 1)) = some (.int (nI S.2.1)); rw [(show S.2.1 = 1 by omega)], rfl, hM.tear, (fun i hi => by funext k; exact up2_ni (by omega))⟩)

set_option maxRecDepth 100000 in
theorem q_image {G : mG} {I : Nat → Nat → Int32} {J : Nat → Nat → Int64} {t : Nat} {B : Nat} {S : aS} (hM : InvM I S) (hw : wfS B S) : zC G yX7_image (eX7_image (g_rmv 1)) [.ref 76] (mm I J t) (fun r M => PM I (op_image S) r M) := by
  refine zC_of (by decide +kernel) rfl (by decide) (Nat.le_of_ble_eq_true rfl) ?_
  have n10 := hw.1.1
  show zV G (eX7_image (g_rmv 1)) (0, 0) 0 [(0, .ref 76)] [] (mm I J t) _
  refine zV_aload_n dX7_image_0 rfl 0 rfl rfl ?_
  refine zV_getr (q' := 77) 0 dX7_image_1 rfl fl_RX7_9 rfl (by decide) rfl rfl ?_
  refine zV_aload_n dX7_image_4 rfl 0 rfl rfl ?_
  refine zV_getr (q' := 78) 1 dX7_image_5 rfl fl_RX7_13 rfl (by decide) rfl rfl ?_
  refine zV_callS (E' := eX7_copyRow (g_rmv 0)) (av := [.ref 77, .ref 78]) (st := []) dX7_image_8 rfl (k_RX7_68 _) rfl ⟨by decide, by decide⟩ ⟨by decide, by decide⟩ (Or.inl rfl) rfl (Nat.le_of_ble_eq_true rfl) (m_copyRow rfl rfl (by decide)) (fun r8 M8 z => ?_)
  obtain ⟨I8, rfl, rfl, hX8, hF8⟩ := z
  show zV G (eX7_image (g_rmv 1)) (0, 0) 11 [(0, .ref 76)] [] (mm I8 J t) _
  refine zV_aload_n dX7_image_11 rfl 0 rfl rfl ?_
  refine zV_iconst (v := (nI 1)) dX7_image_12 rfl rfl ?_
  refine zV_puti 3 dX7_image_13 rfl fl_RX7_315 rfl (by decide) rfl rfl rfl ?_
  refine zV_iconst (v := (nI 1)) dX7_image_16 rfl rfl ?_
  exact zV_ireturn dX7_image_17 rfl rfl (⟨_, _, _, rfl, rfl, hM.image hw hX8 hF8, (fun i hi => by rw [← hF8 i (by omega)]; funext k; exact up2_ni (by omega))⟩)

set_option maxRecDepth 100000 in
theorem q_undo {G : mG} {I : Nat → Nat → Int32} {J : Nat → Nat → Int64} {t : Nat} {B : Nat} {S : aS} (hM : InvM I S) (hw : wfS B S) : zC G yX7_undo (eX7_undo (g_rmv 1)) [.ref 76] (mm I J t) (fun r M => PM I (op_undo S) r M) := by
  refine zC_of (by decide +kernel) rfl (by decide) (Nat.le_of_ble_eq_true rfl) ?_
  have n10 := hw.1.1
  have k1 := hw.2.1
  show zV G (eX7_undo (g_rmv 1)) (0, 0) 0 [(0, .ref 76)] [] (mm I J t) _
  refine zV_aload_n dX7_undo_0 rfl 0 rfl rfl ?_
  refine zV_getI (x := (nI S.2.1)) 3 dX7_undo_1 rfl fl_RX7_315 rfl (by decide) rfl hM.2.1 ?_
  refine zN_if_ne (tgt := 14) dX7_undo_4 rfl rfl (by omega) (fun h4 => ?_) (fun h4 => ?_)
  · refine zV_aload_n dX7_undo_14 rfl 0 rfl rfl ?_
    refine zV_getr (q' := 78) 1 dX7_undo_15 rfl fl_RX7_13 rfl (by decide) rfl rfl ?_
    refine zV_aload_n dX7_undo_18 rfl 0 rfl rfl ?_
    refine zV_getr (q' := 77) 0 dX7_undo_19 rfl fl_RX7_9 rfl (by decide) rfl rfl ?_
    refine zV_callS (E' := eX7_copyRow (g_rmv 0)) (av := [.ref 78, .ref 77]) (st := []) dX7_undo_22 rfl (k_RX7_68 _) rfl ⟨by decide, by decide⟩ ⟨by decide, by decide⟩ (Or.inl rfl) rfl (Nat.le_of_ble_eq_true rfl) (m_copyRow rfl rfl (by decide)) (fun r22 M22 z => ?_)
    obtain ⟨I22, rfl, rfl, hX22, hF22⟩ := z
    show zV G (eX7_undo (g_rmv 1)) (0, 0) 25 [(0, .ref 76)] [] (mm I22 J t) _
    refine zV_aload_n dX7_undo_25 rfl 0 rfl rfl ?_
    refine zV_getr (q' := 77) 0 dX7_undo_26 rfl fl_RX7_9 rfl (by decide) rfl rfl ?_
    refine zV_iconst (v := (nI 0)) dX7_undo_29 rfl rfl ?_
    refine zV_iald (x := (nI S.2.2.1.2.2.2.1)) 0 dX7_undo_30 rfl rfl rfl (by decide) (by decide) (by rw [hX22 0 (by decide)]; exact (hM.2.2.1 (by omega)).1) ?_
    exact zV_ireturn dX7_undo_31 rfl rfl (PM.land hM (by unfold op_undo; rw [if_neg h4]) scM.rf ((hM.2.2.1 (by omega)).cp (hw.2.2.1 (by omega)).1 hX22) hF22)
  · refine zV_aload_n dX7_undo_7 rfl 0 rfl rfl ?_
    refine zV_ldc (v := (-1000004)) dX7_undo_8 rfl tw1107 ?_
    refine zV_callV (E' := eX7_finding (g_rmv 0)) (av := [.int (-1000004)]) (st := []) (b := 76) dX7_undo_10 rfl (k_RX7_87 _) rfl ⟨by decide, by decide⟩ ⟨by decide, by decide⟩ (Or.inl rfl) rfl (Nat.le_of_ble_eq_true rfl) rfl rfl rfl (m_finding (w := 3) (by decide) (by decide)) (fun r10 M10 z => ?_)
    obtain ⟨rfl, rfl⟩ := z
    show zV G (eX7_undo (g_rmv 1)) (0, 0) 13 [(0, .ref 76)] [.int (fdg 3)] (mm (mTell I 3) J t) _
    exact zV_ireturn dX7_undo_13 rfl rfl (PM.tell hM (by decide) (by unfold op_undo; rw [if_pos h4]) scM.rf)

theorem z_ly0 {B : Nat} {σ : aL} (h : wfL B σ) : nI (2 ^ σ.1 - 1) &&& (nI (ld_ly σ 1) ^^^ (-1)) = nI (ld_ly σ 0) := by
  apply Int32.toBitVec_inj.1
  apply BitVec.eq_of_getLsbD_eq
  intro i hi
  rw [Int32.toBitVec_and, Int32.toBitVec_xor, BitVec.getLsbD_and, BitVec.getLsbD_xor, z_lsb _ _ hi, z_m1 i hi, z_mask, z_lsb _ _ hi, z_lsb _ _ hi]
  by_cases hin : i < σ.1
  · rw [show (ld_ly σ 1).testBit i = _ from bitsTo_test _ _ _ hin, show (ld_ly σ 0).testBit i = _ from bitsTo_test _ _ _ hin]
    have h4 := (h.2.1 i hin).2.2.2.2.1
    rcases (show σ.2.1 i 4 = 0 ∨ σ.2.1 i 4 = 1 by omega) with e | e <;> simp [e, hin]
  · rw [show (ld_ly σ 0).testBit i = false from Nat.testBit_lt_two_pow (Nat.lt_of_lt_of_le (bitsTo_lt _ _) (Nat.pow_le_pow_right (by decide) (by omega)))]
    simp [hin]
set_option maxRecDepth 100000 in
theorem q_count {G : mG} {I : Nat → Nat → Int32} {J : Nat → Nat → Int64} {t : Nat} {B : Nat} {S : aS} (hM : InvM I S) (hw : wfS B S) {x : Int32} : zC G yX7_count (eX7_count (g_rmv 5)) [.ref 76, .int x] (mm I J t) (fun r M => PM I (op_count S x) r M) := by
  refine zC_of (by decide +kernel) rfl (by decide) (Nat.le_of_ble_eq_true rfl) ?_
  have n10 := hw.1.1
  have p10 := z_p10 n10
  show zV G (eX7_count (g_rmv 5)) (0, 0) 0 [(0, .ref 76), (1, .int x)] [] (mm I J t) _
  refine zV_iconst (v := (nI 0)) dX7_count_0 rfl rfl ?_
  refine zV_istore_n (lv' := [(0, .ref 76), (1, .int x), (2, .int (nI 0))]) dX7_count_1 rfl rfl (by decide) rfl ?_
  refine zV_iload_n dX7_count_2 rfl 1 rfl rfl ?_
  refine zX_tbl (lo' := 0) (hi' := 7) (td := 171) dX7_count_3 rfl rfl (by decide) rfl (fun h3 => ?_) (fun i hi1 hi2 h3 => ?_)
  · refine zV_aload_n dX7_count_171 rfl 0 rfl rfl ?_
    refine zV_ldc (v := (-1000001)) dX7_count_172 rfl tw970 ?_
    refine zV_callV (E' := eX7_finding (g_rmv 0)) (av := [.int (-1000001)]) (st := []) (b := 76) dX7_count_174 rfl (k_RX7_87 _) rfl ⟨by decide, by decide⟩ ⟨by decide, by decide⟩ (Or.inl rfl) rfl (Nat.le_of_ble_eq_true rfl) rfl rfl rfl (m_finding (w := 0) (by decide) (by decide)) (fun r174 M174 z => ?_)
    obtain ⟨rfl, rfl⟩ := z
    show zV G (eX7_count (g_rmv 5)) (0, 0) 177 [(0, .ref 76), (1, .int x), (2, .int (nI 0))] [.int (fdg 0)] (mm (mTell I 0) J t) _
    exact zV_ireturn dX7_count_177 rfl rfl (PM.tell hM (by decide) (by unfold op_count; rw [if_neg (h3 0 (by decide) (by decide)), if_neg (h3 1 (by decide) (by decide)), if_neg (h3 2 (by decide) (by decide)), if_neg (h3 3 (by decide) (by decide)), if_neg (h3 4 (by decide) (by decide)), if_neg (h3 5 (by decide) (by decide)), if_neg (h3 6 (by decide) (by decide)), if_neg (h3 7 (by decide) (by decide))]) scM.rf)
  · rcases (show i = 0 ∨ i = 1 ∨ i = 2 ∨ i = 3 ∨ i = 4 ∨ i = 5 ∨ i = 6 ∨ i = 7 by omega) with rfl | rfl | rfl | rfl | rfl | rfl | rfl | rfl
    · refine ⟨_, 48, rfl, rfl, ?_⟩
      refine zV_aload_n dX7_count_48 rfl 0 rfl rfl ?_
      refine zV_getr (q' := 77) 0 dX7_count_49 rfl fl_RX7_9 rfl (by decide) rfl rfl ?_
      refine zV_iconst (v := (nI 0)) dX7_count_52 rfl rfl ?_
      refine zV_iald (x := (nI S.1.2.2.2.1)) 0 dX7_count_53 rfl rfl rfl (by decide) (by decide) hM.1.1 ?_
      exact zV_ireturn dX7_count_54 rfl rfl (PM.same hM (by subst h3; unfold op_count; rw [if_pos rfl]) scM.rf)
    · refine ⟨_, 55, rfl, rfl, ?_⟩
      refine zV_aload_n dX7_count_55 rfl 0 rfl rfl ?_
      refine zV_getr (q' := 77) 0 dX7_count_56 rfl fl_RX7_9 rfl (by decide) rfl rfl ?_
      refine zV_iconst (v := (nI 1)) dX7_count_59 rfl rfl ?_
      refine zV_iald (x := (nI S.1.1)) 1 dX7_count_60 rfl rfl rfl (by decide) (by decide) hM.1.2.1 ?_
      exact zV_ireturn dX7_count_61 rfl rfl (PM.same hM (by subst h3; unfold op_count; rw [if_neg (show ¬ nI 1 = nI 0 by decide), if_pos rfl]) scM.rf)
    · refine ⟨_, 62, rfl, rfl, ?_⟩
      refine zV_aload_n dX7_count_62 rfl 0 rfl rfl ?_
      refine zV_iconst (v := (nI 1)) dX7_count_63 rfl rfl ?_
      refine zV_aload_n dX7_count_64 rfl 0 rfl rfl ?_
      refine zV_getr (q' := 77) 0 dX7_count_65 rfl fl_RX7_9 rfl (by decide) rfl rfl ?_
      refine zV_iconst (v := (nI 1)) dX7_count_68 rfl rfl ?_
      refine zV_iald (x := (nI S.1.1)) 1 dX7_count_69 rfl rfl rfl (by decide) (by decide) hM.1.2.1 ?_
      refine zA_ishl (z := (nI (2 ^ S.1.1))) dX7_count_70 rfl  (z_shl1 (by omega)) ?_
      refine zV_iconst (v := (nI 1)) dX7_count_71 rfl rfl ?_
      refine zA_isub (z := (nI (2 ^ S.1.1 - 1))) dX7_count_72 rfl  (pk_sub Nat.one_le_two_pow) ?_
      refine zV_callV (E' := eX7_sumOf (g_rmv 4)) (av := [.int (nI (2 ^ S.1.1 - 1))]) (st := []) (b := 76) dX7_count_73 rfl (k_RX7_142 _) rfl ⟨by decide, by decide⟩ ⟨by decide, by decide⟩ (Or.inl rfl) rfl (Nat.le_of_ble_eq_true rfl) rfl rfl rfl (m_sumOf (s := (2 ^ S.1.1 - 1)) hM.1 hw.1 (by omega)) (fun r73 M73 z => ?_)
      obtain ⟨rfl, rfl⟩ := z
      show zV G (eX7_count (g_rmv 5)) (0, 0) 76 [(0, .ref 76), (1, .int x), (2, .int (nI 0))] [.int (nI (ld_sum S.1 (2 ^ S.1.1 - 1)))] (mm I J t) _
      exact zV_ireturn dX7_count_76 rfl rfl (PM.same hM (by subst h3; unfold op_count; rw [if_neg (show ¬ nI 2 = nI 0 by decide), if_neg (show ¬ nI 2 = nI 1 by decide), if_pos rfl]) scM.rf)
    · refine ⟨_, 77, rfl, rfl, ?_⟩
      refine zV_iconst (v := (nI 0)) dX7_count_77 rfl rfl ?_
      refine zV_istore_n (lv' := [(0, .ref 76), (1, .int x), (2, .int (nI 0)), (3, .int (nI 0))]) dX7_count_78 rfl rfl (by decide) rfl ?_
      refine z_for (fun c => zV G (eX7_count (g_rmv 5)) (0, 0) 79 [(0, .ref 76), (1, .int x), (2, .int (nI (fb_sm (fun c => S.1.2.1 c 5) c))), (3, .int (nI c))] [] (mm I J t) _) S.1.1 ?_ ?_ 0 (Nat.zero_le _)
      · skip
        refine zV_iload_n dX7_count_79 rfl 3 rfl rfl ?_
        refine zV_aload_n dX7_count_80 rfl 0 rfl rfl ?_
        refine zV_getr (q' := 77) 0 dX7_count_81 rfl fl_RX7_9 rfl (by decide) rfl rfl ?_
        refine zV_iconst (v := (nI 1)) dX7_count_84 rfl rfl ?_
        refine zV_iald (x := (nI S.1.1)) 1 dX7_count_85 rfl rfl rfl (by decide) (by decide) hM.1.2.1 ?_
        refine zN_icmp_ge (tgt := 104) dX7_count_86 rfl rfl (by omega) (by omega) (fun _ => ?_) (fun z => absurd z (by omega))
        refine zV_iload_n dX7_count_104 rfl 2 rfl rfl ?_
        exact zV_ireturn dX7_count_105 rfl rfl (PM.same hM (by subst h3; unfold op_count; rw [if_neg (show ¬ nI 3 = nI 0 by decide), if_neg (show ¬ nI 3 = nI 1 by decide), if_neg (show ¬ nI 3 = nI 2 by decide), if_pos rfl]; rfl) scM.rf)
      · intro c hc ih
        refine zV_iload_n dX7_count_79 rfl 3 rfl rfl ?_
        refine zV_aload_n dX7_count_80 rfl 0 rfl rfl ?_
        refine zV_getr (q' := 77) 0 dX7_count_81 rfl fl_RX7_9 rfl (by decide) rfl rfl ?_
        refine zV_iconst (v := (nI 1)) dX7_count_84 rfl rfl ?_
        refine zV_iald (x := (nI S.1.1)) 1 dX7_count_85 rfl rfl rfl (by decide) (by decide) hM.1.2.1 ?_
        refine zN_icmp_ge (tgt := 104) dX7_count_86 rfl rfl (by omega) (by omega) (fun z => absurd z (by omega)) (fun _ => ?_)
        refine zV_iload_n dX7_count_89 rfl 2 rfl rfl ?_
        refine zV_aload_n dX7_count_90 rfl 0 rfl rfl ?_
        refine zV_iload_n dX7_count_91 rfl 3 rfl rfl ?_
        refine zV_iconst (v := (nI 5)) dX7_count_92 rfl rfl ?_
        refine zV_callV (E' := eX7_coinIs (g_rmv 1)) (av := [.int (nI c), .int (nI 5)]) (st := [.int (nI (fb_sm (fun c => S.1.2.1 c 5) c))]) (b := 76) dX7_count_93 rfl (k_RX7_99 _) rfl ⟨by decide, by decide⟩ ⟨by decide, by decide⟩ (Or.inl rfl) rfl (Nat.le_of_ble_eq_true rfl) rfl rfl rfl (m_coinIs (c := c) (f := 5) hM.1 hw.1 hc (by decide)) (fun r93 M93 z => ?_)
        obtain ⟨rfl, rfl⟩ := z
        show zV G (eX7_count (g_rmv 5)) (0, 0) 96 [(0, .ref 76), (1, .int x), (2, .int (nI (fb_sm (fun c => S.1.2.1 c 5) c))), (3, .int (nI c))] [.int (nI (S.1.2.1 c 5)), .int (nI (fb_sm (fun c => S.1.2.1 c 5) c))] (mm I J t) _
        refine zA_iadd (z := (nI ((fb_sm (fun c => S.1.2.1 c 5) c) + (S.1.2.1 c 5)))) dX7_count_96 rfl  (nI_add _ _) ?_
        refine zV_istore_n (lv' := [(0, .ref 76), (1, .int x), (2, .int (nI ((fb_sm (fun c => S.1.2.1 c 5) c) + (S.1.2.1 c 5)))), (3, .int (nI c))]) dX7_count_97 rfl rfl (by decide) rfl ?_
        refine zV_iinc (y := (nI (c + 1))) (lv' := [(0, .ref 76), (1, .int x), (2, .int (nI ((fb_sm (fun c => S.1.2.1 c 5) c) + (S.1.2.1 c 5)))), (3, .int (nI (c + 1)))]) dX7_count_98 rfl 3 rfl (nI_1 _) (by decide) rfl ?_
        refine zV_goto (tgt := 79) dX7_count_101 rfl ?_
        rw [show fb_sm (fun c => S.1.2.1 c 5) (c + 1) = ((fb_sm (fun c => S.1.2.1 c 5) c) + (S.1.2.1 c 5)) by rw [fb_sm_succ]] at ih
        exact ih
    · refine ⟨_, 106, rfl, rfl, ?_⟩
      refine zV_iconst (v := (nI 1)) dX7_count_106 rfl rfl ?_
      refine zV_aload_n dX7_count_107 rfl 0 rfl rfl ?_
      refine zV_getr (q' := 77) 0 dX7_count_108 rfl fl_RX7_9 rfl (by decide) rfl rfl ?_
      refine zV_iconst (v := (nI 1)) dX7_count_111 rfl rfl ?_
      refine zV_iald (x := (nI S.1.1)) 1 dX7_count_112 rfl rfl rfl (by decide) (by decide) hM.1.2.1 ?_
      refine zA_ishl (z := (nI (2 ^ S.1.1))) dX7_count_113 rfl  (z_shl1 (by omega)) ?_
      refine zV_iconst (v := (nI 1)) dX7_count_114 rfl rfl ?_
      refine zA_isub (z := (nI (2 ^ S.1.1 - 1))) dX7_count_115 rfl  (pk_sub Nat.one_le_two_pow) ?_
      refine zV_aload_n dX7_count_116 rfl 0 rfl rfl ?_
      refine zV_callV (E' := eX7_shipUp (g_rmv 2)) (av := []) (st := [.int (nI (2 ^ S.1.1 - 1))]) (b := 76) dX7_count_117 rfl (k_RX7_145 _) rfl ⟨by decide, by decide⟩ ⟨by decide, by decide⟩ (Or.inl rfl) rfl (Nat.le_of_ble_eq_true rfl) rfl rfl rfl (m_shipUp hM.1 hw.1) (fun r117 M117 z => ?_)
      obtain ⟨rfl, rfl⟩ := z
      show zV G (eX7_count (g_rmv 5)) (0, 0) 120 [(0, .ref 76), (1, .int x), (2, .int (nI 0))] [.int (nI (ld_ly S.1 1)), .int (nI (2 ^ S.1.1 - 1))] (mm I J t) _
      refine zV_iconst (v := (-1)) dX7_count_120 rfl rfl ?_
      refine zA_ixor (z := ((nI (ld_ly S.1 1)) ^^^ (-1))) dX7_count_121 rfl  (rfl) ?_
      refine zA_iand (z := (nI (ld_ly S.1 0))) dX7_count_122 rfl  (z_ly0 hw.1) ?_
      exact zV_ireturn dX7_count_123 rfl rfl (PM.same hM (by subst h3; unfold op_count; rw [if_neg (show ¬ nI 4 = nI 0 by decide), if_neg (show ¬ nI 4 = nI 1 by decide), if_neg (show ¬ nI 4 = nI 2 by decide), if_neg (show ¬ nI 4 = nI 3 by decide), if_pos rfl]) scM.rf)
    · refine ⟨_, 124, rfl, rfl, ?_⟩
      refine zV_aload_n dX7_count_124 rfl 0 rfl rfl ?_
      refine zV_getI (x := (nI S.2.2.2.1.1)) 10 dX7_count_125 rfl fl_RX7_227 rfl (by decide) rfl hM.2.2.2.1 ?_
      exact zV_ireturn dX7_count_128 rfl rfl (PM.same hM (by subst h3; unfold op_count; rw [if_neg (show ¬ nI 5 = nI 0 by decide), if_neg (show ¬ nI 5 = nI 1 by decide), if_neg (show ¬ nI 5 = nI 2 by decide), if_neg (show ¬ nI 5 = nI 3 by decide), if_neg (show ¬ nI 5 = nI 4 by decide), if_pos rfl]) scM.rf)
    · refine ⟨_, 129, rfl, rfl, ?_⟩
      refine zV_aload_n dX7_count_129 rfl 0 rfl rfl ?_
      refine zV_getr (q' := 77) 0 dX7_count_130 rfl fl_RX7_9 rfl (by decide) rfl rfl ?_
      refine zV_iconst (v := (nI 2)) dX7_count_133 rfl rfl ?_
      refine zV_iald (x := S.1.2.2.2.2) 2 dX7_count_134 rfl rfl rfl (by decide) (by decide) hM.1.2.2.1 ?_
      exact zV_ireturn dX7_count_135 rfl rfl (PM.same hM (by subst h3; unfold op_count; rw [if_neg (show ¬ nI 6 = nI 0 by decide), if_neg (show ¬ nI 6 = nI 1 by decide), if_neg (show ¬ nI 6 = nI 2 by decide), if_neg (show ¬ nI 6 = nI 3 by decide), if_neg (show ¬ nI 6 = nI 4 by decide), if_neg (show ¬ nI 6 = nI 5 by decide), if_pos rfl]) scM.rf)
    · refine ⟨_, 136, rfl, rfl, ?_⟩
      refine zV_iconst (v := (nI 0)) dX7_count_136 rfl rfl ?_
      refine zV_istore_n (lv' := [(0, .ref 76), (1, .int x), (2, .int (nI 0)), (3, .int (nI 0))]) dX7_count_137 rfl rfl (by decide) rfl ?_
      refine z_for (fun c => zV G (eX7_count (g_rmv 5)) (0, 0) 138 [(0, .ref 76), (1, .int x), (2, .int (nI (fb_ct (fun s => decide (S.1.2.2.1 s ≠ -1)) c))), (3, .int (nI c))] [] (mm I J t) _) 10 ?_ ?_ 0 (Nat.zero_le _)
      · skip
        refine zV_iload_n dX7_count_138 rfl 3 rfl rfl ?_
        refine zV_bipush (v := (nI 10)) dX7_count_139 rfl rfl ?_
        refine zN_icmp_ge (tgt := 169) dX7_count_141 rfl rfl (by omega) (by omega) (fun _ => ?_) (fun z => absurd z (by omega))
        refine zV_iload_n dX7_count_169 rfl 2 rfl rfl ?_
        exact zV_ireturn dX7_count_170 rfl rfl (PM.same hM (by subst h3; unfold op_count; rw [if_neg (show ¬ nI 7 = nI 0 by decide), if_neg (show ¬ nI 7 = nI 1 by decide), if_neg (show ¬ nI 7 = nI 2 by decide), if_neg (show ¬ nI 7 = nI 3 by decide), if_neg (show ¬ nI 7 = nI 4 by decide), if_neg (show ¬ nI 7 = nI 5 by decide), if_neg (show ¬ nI 7 = nI 6 by decide), if_pos rfl]; rfl) scM.rf)
      · intro c hc ih
        refine zV_iload_n dX7_count_138 rfl 3 rfl rfl ?_
        refine zV_bipush (v := (nI 10)) dX7_count_139 rfl rfl ?_
        refine zN_icmp_ge (tgt := 169) dX7_count_141 rfl rfl (by omega) (by omega) (fun z => absurd z (by omega)) (fun _ => ?_)
        refine zV_iload_n dX7_count_144 rfl 2 rfl rfl ?_
        refine zV_aload_n dX7_count_145 rfl 0 rfl rfl ?_
        refine zV_getr (q' := 77) 0 dX7_count_146 rfl fl_RX7_9 rfl (by decide) rfl rfl ?_
        refine zV_iconst (v := (nI 3)) dX7_count_149 rfl rfl ?_
        refine zV_iload_n dX7_count_150 rfl 3 rfl rfl ?_
        refine zA_iadd (z := (nI (3 + c))) dX7_count_151 rfl  (nI_add _ _) ?_
        refine zV_iald (x := (S.1.2.2.1 c)) (3 + c) dX7_count_152 rfl rfl rfl (by omega) (by decide) (hM.1.2.2.2.1 c hc) ?_
        refine zV_if_ge (tgt := 160) dX7_count_153 rfl rfl  (fun h153 => ?_) (fun h153 => ?_)
        · refine zV_iconst (v := (nI 1)) dX7_count_160 rfl rfl ?_
          refine zA_iadd (z := (nI ((fb_ct (fun s => decide (S.1.2.2.1 s ≠ -1)) c) + 1))) dX7_count_161 rfl  (nI_add _ _) ?_
          refine zV_istore_n (lv' := [(0, .ref 76), (1, .int x), (2, .int (nI ((fb_ct (fun s => decide (S.1.2.2.1 s ≠ -1)) c) + 1))), (3, .int (nI c))]) dX7_count_162 rfl rfl (by decide) rfl ?_
          refine zV_iinc (y := (nI (c + 1))) (lv' := [(0, .ref 76), (1, .int x), (2, .int (nI ((fb_ct (fun s => decide (S.1.2.2.1 s ≠ -1)) c) + 1))), (3, .int (nI (c + 1)))]) dX7_count_163 rfl 3 rfl (nI_1 _) (by decide) rfl ?_
          refine zV_goto (tgt := 138) dX7_count_166 rfl ?_
          rw [show fb_ct (fun s => decide (S.1.2.2.1 s ≠ -1)) (c + 1) = ((fb_ct (fun s => decide (S.1.2.2.1 s ≠ -1)) c) + 1) by rw [fb_ct_succ]; rcases hw.2.2.2.2.2.2.1 c hc with e | ⟨c1, hc1, e⟩ <;> (rw [e] at h153 ⊢; first | (simp; done) | exact absurd h153 (by decide) | exact absurd (nI_pos' (show c1 < 2 ^ 31 by omega)) h153 | (have e9 : nI c1 ≠ -1 := fun z => by have z1 := congrArg Int32.toInt z; rw [nI_toInt (by omega)] at z1; exact absurd z1 (by rw [show (-1 : Int32).toInt = -1 from rfl]; omega)); simp [e9])] at ih
          exact ih
        · refine zV_iconst (v := (nI 0)) dX7_count_156 rfl rfl ?_
          refine zV_goto (tgt := 161) dX7_count_157 rfl ?_
          refine zA_iadd (z := (nI (fb_ct (fun s => decide (S.1.2.2.1 s ≠ -1)) c))) dX7_count_161 rfl  (z_add0 _) ?_
          refine zV_istore_n (lv' := [(0, .ref 76), (1, .int x), (2, .int (nI (fb_ct (fun s => decide (S.1.2.2.1 s ≠ -1)) c))), (3, .int (nI c))]) dX7_count_162 rfl rfl (by decide) rfl ?_
          refine zV_iinc (y := (nI (c + 1))) (lv' := [(0, .ref 76), (1, .int x), (2, .int (nI (fb_ct (fun s => decide (S.1.2.2.1 s ≠ -1)) c))), (3, .int (nI (c + 1)))]) dX7_count_163 rfl 3 rfl (nI_1 _) (by decide) rfl ?_
          refine zV_goto (tgt := 138) dX7_count_166 rfl ?_
          rw [show fb_ct (fun s => decide (S.1.2.2.1 s ≠ -1)) (c + 1) = (fb_ct (fun s => decide (S.1.2.2.1 s ≠ -1)) c) by rw [fb_ct_succ]; rcases hw.2.2.2.2.2.2.1 c hc with e | ⟨c1, hc1, e⟩ <;> (rw [e] at h153 ⊢; first | (simp; done) | exact absurd h153 (by decide) | exact absurd (nI_pos' (show c1 < 2 ^ 31 by omega)) h153 | (have e9 : nI c1 ≠ -1 := fun z => by have z1 := congrArg Int32.toInt z; rw [nI_toInt (by omega)] at z1; exact absurd z1 (by rw [show (-1 : Int32).toInt = -1 from rfl]; omega)); simp [e9])] at ih
          exact ih
