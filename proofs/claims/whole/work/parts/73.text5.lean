/-! TEXTS: items of the reference -/
set_option maxRecDepth 100000 in
theorem m_must1 {G : mG} {I : Nat → Nat → Int32} {J : Nat → Nat → Int64} {t : Nat} {tp : Nat → Nat} {L : Nat} {k : aT} (hr : rdM I tp L) (hk : tkM I k) (ho : okT L k) (hw : I 76 15 = nI 0) : zC G yX7_must (eX7_must (g_rmv 2)) [.ref 76, .int (nI 1)] (mm I J t) (fun r M => ∃ I', r = none ∧ M = mm I' J t ∧ tkM I' (nx tp L k) ∧ fr7 I I' ∧ I' 76 15 = nI 0) := by
  refine zC_of (by decide +kernel) rfl (by decide) (Nat.le_of_ble_eq_true rfl) ?_
  show zV G (eX7_must (g_rmv 2)) (0, 0) 0 [(0, .ref 76), (1, .int (nI 1))] [] (mm I J t) _
  refine zV_aload_n dX7_must_0 rfl 0 rfl rfl ?_
  refine zV_aload_n dX7_must_1 rfl 0 rfl rfl ?_
  refine zV_getI (x := (nI 0)) 15 dX7_must_2 rfl fl_RX7_252 rfl (by decide) rfl hw ?_
  refine zN_if_ne (tgt := 12) dX7_must_5 rfl rfl (by decide) (fun z => absurd z (by decide)) (fun _ => ?_)
  refine zV_iload_n dX7_must_8 rfl 1 rfl rfl ?_
  refine zN_if_ne (tgt := 16) dX7_must_9 rfl rfl (by decide) (fun _ => ?_) (fun z => absurd z (by decide))
  refine zV_iconst (v := (nI 0)) dX7_must_16 rfl rfl ?_
  refine zV_puti 15 dX7_must_17 rfl fl_RX7_252 rfl (by decide) rfl rfl rfl ?_
  refine zV_aload_n dX7_must_20 rfl 0 rfl rfl ?_
  refine zV_getI (x := (nI 0)) 15 dX7_must_21 rfl fl_RX7_252 rfl (by decide) rfl (up2_same _ _ _ _) ?_
  refine zN_if_ne (tgt := 31) dX7_must_24 rfl rfl (by decide) (fun z => absurd z (by decide)) (fun _ => ?_)
  refine zV_aload_n dX7_must_27 rfl 0 rfl rfl ?_
  refine zV_callV (E' := eX7_next (g_rmv 1)) (av := []) (st := []) (b := 76) dX7_must_28 rfl (k_RX7_256 _) rfl ⟨by decide, by decide⟩ ⟨by decide, by decide⟩ (Or.inl rfl) rfl (Nat.le_of_ble_eq_true rfl) rfl rfl rfl (m_next (tp := tp) (L := L) (b := k.2.2.1) (w := 0) (hr.mv (up2_nk (by decide)) (by funext z; exact up2_ni (by decide))) ho.2.2.1 ((up2_nk (by decide)).trans hk.2.1) (up2_same _ _ _ _)) (fun r28 M28 z => ?_)
  obtain ⟨I28, rfl, rfl, q1, q2, q3⟩ := z
  show zV G (eX7_must (g_rmv 2)) (0, 0) 31 [(0, .ref 76), (1, .int (nI 1))] [] (mm I28 J t) _
  exact zV_return dX7_must_31 rfl (⟨_, rfl, rfl, q1, (fr7.rf.up (by decide)).tr q2, q3⟩)

set_option maxRecDepth 100000 in
theorem m_must0 {G : mG} {I : Nat → Nat → Int32} {J : Nat → Nat → Int64} {t : Nat} (hw : I 76 15 = nI 0) : zC G yX7_must (eX7_must (g_rmv 2)) [.ref 76, .int (nI 0)] (mm I J t) (fun r M => r = none ∧ M = mm (up2 I 76 15 (nI 1)) J t) := by
  refine zC_of (by decide +kernel) rfl (by decide) (Nat.le_of_ble_eq_true rfl) ?_
  show zV G (eX7_must (g_rmv 2)) (0, 0) 0 [(0, .ref 76), (1, .int (nI 0))] [] (mm I J t) _
  refine zV_aload_n dX7_must_0 rfl 0 rfl rfl ?_
  refine zV_aload_n dX7_must_1 rfl 0 rfl rfl ?_
  refine zV_getI (x := (nI 0)) 15 dX7_must_2 rfl fl_RX7_252 rfl (by decide) rfl hw ?_
  refine zN_if_ne (tgt := 12) dX7_must_5 rfl rfl (by decide) (fun z => absurd z (by decide)) (fun _ => ?_)
  refine zV_iload_n dX7_must_8 rfl 1 rfl rfl ?_
  refine zN_if_ne (tgt := 16) dX7_must_9 rfl rfl (by decide) (fun z => absurd z (by decide)) (fun _ => ?_)
  refine zV_iconst (v := (nI 1)) dX7_must_12 rfl rfl ?_
  refine zV_goto (tgt := 17) dX7_must_13 rfl ?_
  refine zV_puti 15 dX7_must_17 rfl fl_RX7_252 rfl (by decide) rfl rfl rfl ?_
  refine zV_aload_n dX7_must_20 rfl 0 rfl rfl ?_
  refine zV_getI (x := (nI 1)) 15 dX7_must_21 rfl fl_RX7_252 rfl (by decide) rfl (up2_same _ _ _ _) ?_
  refine zN_if_ne (tgt := 31) dX7_must_24 rfl rfl (by decide) (fun _ => ?_) (fun z => absurd z (by decide))
  exact zV_return dX7_must_31 rfl (⟨rfl, rfl⟩)

set_option maxRecDepth 100000 in
theorem m_mustw {G : mG} {I : Nat → Nat → Int32} {J : Nat → Nat → Int64} {t : Nat} (hw : I 76 15 = nI 1) {x : Int32} : zC G yX7_must (eX7_must (g_rmv 2)) [.ref 76, .int x] (mm I J t) (fun r M => r = none ∧ M = mm (up2 I 76 15 (nI 1)) J t) := by
  refine zC_of (by decide +kernel) rfl (by decide) (Nat.le_of_ble_eq_true rfl) ?_
  show zV G (eX7_must (g_rmv 2)) (0, 0) 0 [(0, .ref 76), (1, .int x)] [] (mm I J t) _
  refine zV_aload_n dX7_must_0 rfl 0 rfl rfl ?_
  refine zV_aload_n dX7_must_1 rfl 0 rfl rfl ?_
  refine zV_getI (x := (nI 1)) 15 dX7_must_2 rfl fl_RX7_252 rfl (by decide) rfl hw ?_
  refine zN_if_ne (tgt := 12) dX7_must_5 rfl rfl (by decide) (fun _ => ?_) (fun z => absurd z (by decide))
  refine zV_iconst (v := (nI 1)) dX7_must_12 rfl rfl ?_
  refine zV_goto (tgt := 17) dX7_must_13 rfl ?_
  refine zV_puti 15 dX7_must_17 rfl fl_RX7_252 rfl (by decide) rfl rfl rfl ?_
  refine zV_aload_n dX7_must_20 rfl 0 rfl rfl ?_
  refine zV_getI (x := (nI 1)) 15 dX7_must_21 rfl fl_RX7_252 rfl (by decide) rfl (up2_same _ _ _ _) ?_
  refine zN_if_ne (tgt := 31) dX7_must_24 rfl rfl (by decide) (fun _ => ?_) (fun z => absurd z (by decide))
  exact zV_return dX7_must_31 rfl (⟨rfl, rfl⟩)

theorem m_mustY {G : mG} {I : Nat → Nat → Int32} {J : Nat → Nat → Int64} {t : Nat} {tp : Nat → Nat} {L : Nat} {k : aT} {P : Prop} [Decidable P] (hP : P) (hr : rdM I tp L) (hk : tkM I k) (ho : okT L k) (hw : I 76 15 = nI 0) : zC G yX7_must (eX7_must (g_rmv 2)) [.ref 76, .int (b2 P)] (mm I J t) (fun r M => ∃ I', r = none ∧ M = mm I' J t ∧ tkM I' (nx tp L k) ∧ fr7 I I' ∧ I' 76 15 = nI 0) := by
  rw [b2_t hP]
  exact m_must1 hr hk ho hw
theorem m_mustN {G : mG} {I : Nat → Nat → Int32} {J : Nat → Nat → Int64} {t : Nat} {P : Prop} [Decidable P] (hP : ¬ P) (hw : I 76 15 = nI 0) : zC G yX7_must (eX7_must (g_rmv 2)) [.ref 76, .int (b2 P)] (mm I J t) (fun r M => r = none ∧ M = mm (up2 I 76 15 (nI 1)) J t) := by
  rw [b2_f hP]
  exact m_must0 hw
set_option maxRecDepth 100000 in
theorem m_numY {G : mG} {I : Nat → Nat → Int32} {J : Nat → Nat → Int64} {t : Nat} {tp : Nat → Nat} {L : Nat} {k : aT} (hr : rdM I tp L) (hk : tkM I k) (ho : okT L k) (hw : I 76 15 = nI 0) {x : Int32} (hP : k.1 = 2 ∧ nI k.2.2.2 ≤ x) : zC G yX7_number (eX7_number (g_rmv 3)) [.ref 76, .int (nI 0), .int x] (mm I J t) (fun r M => ∃ I', r = some (.int (nI k.2.2.2)) ∧ M = mm I' J t ∧ tkM I' (nx tp L k) ∧ fr7 I I' ∧ I' 76 15 = nI 0) := by
  refine zC_of (by decide +kernel) rfl (by decide) (Nat.le_of_ble_eq_true rfl) ?_
  have o4 := ho.2.2.2
  have hP1 := hP.1
  show zV G (eX7_number (g_rmv 3)) (0, 0) 0 [(0, .ref 76), (1, .int (nI 0)), (2, .int x)] [] (mm I J t) _
  refine zV_aload_n dX7_number_0 rfl 0 rfl rfl ?_
  refine zV_getI (x := (nI k.2.2.2)) 14 dX7_number_1 rfl fl_RX7_239 rfl (by decide) rfl hk.2.2.2 ?_
  refine zV_istore_n (lv' := [(0, .ref 76), (1, .int (nI 0)), (2, .int x), (3, .int (nI k.2.2.2))]) dX7_number_4 rfl rfl (by decide) rfl ?_
  refine zV_aload_n dX7_number_5 rfl 0 rfl rfl ?_
  refine zV_aload_n dX7_number_6 rfl 0 rfl rfl ?_
  refine zV_getI (x := (nI (min k.1 3))) 13 dX7_number_7 rfl fl_RX7_242 rfl (by decide) rfl hk.2.2.1 ?_
  refine zV_iconst (v := (nI 2)) dX7_number_10 rfl rfl ?_
  refine zN_icmp_ne (tgt := 27) dX7_number_11 rfl rfl (by omega) (by omega) (fun z => absurd z (fun z => z (by omega))) (fun _ => ?_)
  refine zV_iload_n dX7_number_14 rfl 3 rfl rfl ?_
  refine zV_iload_n dX7_number_15 rfl 1 rfl rfl ?_
  refine zV_iload_n dX7_number_16 rfl 2 rfl rfl ?_
  refine zV_callS (E' := eX7_within (g_rmv 0)) (av := [.int (nI k.2.2.2), .int (nI 0), .int x]) (st := [.ref 76]) dX7_number_17 rfl (k_RX7_72 _) rfl ⟨by decide, by decide⟩ ⟨by decide, by decide⟩ (Or.inl rfl) rfl (Nat.le_of_ble_eq_true rfl) (m_within (x := (nI k.2.2.2)) (y := (nI 0)) (z := x)) (fun r17 M17 z => ?_)
  obtain ⟨rfl, rfl⟩ := z
  show zV G (eX7_number (g_rmv 3)) (0, 0) 20 [(0, .ref 76), (1, .int (nI 0)), (2, .int x), (3, .int (nI k.2.2.2))] [.int (b2 ((nI 0) ≤ (nI k.2.2.2) ∧ (nI k.2.2.2) ≤ x)), .ref 76] (mm I J t) _
  refine zB_if_eq (tgt := 27) dX7_number_20 rfl rfl  (fun z => absurd z (fun z => z ⟨nI_pos' (by omega), hP.2⟩)) (fun _ => ?_)
  refine zV_iconst (v := (nI 1)) dX7_number_23 rfl rfl ?_
  refine zV_goto (tgt := 28) dX7_number_24 rfl ?_
  refine zV_callV (E' := eX7_must (g_rmv 2)) (av := [.int (nI 1)]) (st := []) (b := 76) dX7_number_28 rfl (k_RX7_259 _) rfl ⟨by decide, by decide⟩ ⟨by decide, by decide⟩ (Or.inl rfl) rfl (Nat.le_of_ble_eq_true rfl) rfl rfl rfl (m_must1 hr hk ho hw) (fun r28 M28 z => ?_)
  obtain ⟨I28, rfl, rfl, q1, q2, q3⟩ := z
  show zV G (eX7_number (g_rmv 3)) (0, 0) 31 [(0, .ref 76), (1, .int (nI 0)), (2, .int x), (3, .int (nI k.2.2.2))] [] (mm I28 J t) _
  refine zV_iload_n dX7_number_31 rfl 3 rfl rfl ?_
  exact zV_ireturn dX7_number_32 rfl rfl (⟨_, rfl, rfl, q1, q2, q3⟩)

set_option maxRecDepth 100000 in
theorem m_numN {G : mG} {I : Nat → Nat → Int32} {J : Nat → Nat → Int64} {t : Nat} {tp : Nat → Nat} {L : Nat} {k : aT} (hr : rdM I tp L) (hk : tkM I k) (ho : okT L k) (hw : I 76 15 = nI 0) {x : Int32} (hP : ¬ (k.1 = 2 ∧ nI k.2.2.2 ≤ x)) : zC G yX7_number (eX7_number (g_rmv 3)) [.ref 76, .int (nI 0), .int x] (mm I J t) (fun r M => r = some (.int (nI k.2.2.2)) ∧ M = mm (up2 I 76 15 (nI 1)) J t) := by
  refine zC_of (by decide +kernel) rfl (by decide) (Nat.le_of_ble_eq_true rfl) ?_
  have o4 := ho.2.2.2
  have o1 := ho.1
  show zV G (eX7_number (g_rmv 3)) (0, 0) 0 [(0, .ref 76), (1, .int (nI 0)), (2, .int x)] [] (mm I J t) _
  refine zV_aload_n dX7_number_0 rfl 0 rfl rfl ?_
  refine zV_getI (x := (nI k.2.2.2)) 14 dX7_number_1 rfl fl_RX7_239 rfl (by decide) rfl hk.2.2.2 ?_
  refine zV_istore_n (lv' := [(0, .ref 76), (1, .int (nI 0)), (2, .int x), (3, .int (nI k.2.2.2))]) dX7_number_4 rfl rfl (by decide) rfl ?_
  refine zV_aload_n dX7_number_5 rfl 0 rfl rfl ?_
  refine zV_aload_n dX7_number_6 rfl 0 rfl rfl ?_
  refine zV_getI (x := (nI (min k.1 3))) 13 dX7_number_7 rfl fl_RX7_242 rfl (by decide) rfl hk.2.2.1 ?_
  refine zV_iconst (v := (nI 2)) dX7_number_10 rfl rfl ?_
  refine zN_icmp_ne (tgt := 27) dX7_number_11 rfl rfl (by omega) (by omega) (fun h11 => ?_) (fun h11 => ?_)
  · refine zV_iconst (v := (nI 0)) dX7_number_27 rfl rfl ?_
    refine zV_callV (E' := eX7_must (g_rmv 2)) (av := [.int (nI 0)]) (st := []) (b := 76) dX7_number_28 rfl (k_RX7_259 _) rfl ⟨by decide, by decide⟩ ⟨by decide, by decide⟩ (Or.inl rfl) rfl (Nat.le_of_ble_eq_true rfl) rfl rfl rfl (m_must0 hw) (fun r28 M28 z => ?_)
    obtain ⟨rfl, rfl⟩ := z
    show zV G (eX7_number (g_rmv 3)) (0, 0) 31 [(0, .ref 76), (1, .int (nI 0)), (2, .int x), (3, .int (nI k.2.2.2))] [] (mm (up2 I 76 15 (nI 1)) J t) _
    refine zV_iload_n dX7_number_31 rfl 3 rfl rfl ?_
    exact zV_ireturn dX7_number_32 rfl rfl (⟨rfl, rfl⟩)
  · refine zV_iload_n dX7_number_14 rfl 3 rfl rfl ?_
    refine zV_iload_n dX7_number_15 rfl 1 rfl rfl ?_
    refine zV_iload_n dX7_number_16 rfl 2 rfl rfl ?_
    refine zV_callS (E' := eX7_within (g_rmv 0)) (av := [.int (nI k.2.2.2), .int (nI 0), .int x]) (st := [.ref 76]) dX7_number_17 rfl (k_RX7_72 _) rfl ⟨by decide, by decide⟩ ⟨by decide, by decide⟩ (Or.inl rfl) rfl (Nat.le_of_ble_eq_true rfl) (m_within (x := (nI k.2.2.2)) (y := (nI 0)) (z := x)) (fun r17 M17 z => ?_)
    obtain ⟨rfl, rfl⟩ := z
    show zV G (eX7_number (g_rmv 3)) (0, 0) 20 [(0, .ref 76), (1, .int (nI 0)), (2, .int x), (3, .int (nI k.2.2.2))] [.int (b2 ((nI 0) ≤ (nI k.2.2.2) ∧ (nI k.2.2.2) ≤ x)), .ref 76] (mm I J t) _
    refine zB_if_eq (tgt := 27) dX7_number_20 rfl rfl  (fun _ => ?_) (fun z => absurd z (fun z => hP ⟨by omega, z.2⟩))
    refine zV_iconst (v := (nI 0)) dX7_number_27 rfl rfl ?_
    refine zV_callV (E' := eX7_must (g_rmv 2)) (av := [.int (nI 0)]) (st := []) (b := 76) dX7_number_28 rfl (k_RX7_259 _) rfl ⟨by decide, by decide⟩ ⟨by decide, by decide⟩ (Or.inl rfl) rfl (Nat.le_of_ble_eq_true rfl) rfl rfl rfl (m_must0 hw) (fun r28 M28 z => ?_)
    obtain ⟨rfl, rfl⟩ := z
    show zV G (eX7_number (g_rmv 3)) (0, 0) 31 [(0, .ref 76), (1, .int (nI 0)), (2, .int x), (3, .int (nI k.2.2.2))] [] (mm (up2 I 76 15 (nI 1)) J t) _
    refine zV_iload_n dX7_number_31 rfl 3 rfl rfl ?_
    exact zV_ireturn dX7_number_32 rfl rfl (⟨rfl, rfl⟩)

set_option maxRecDepth 100000 in
theorem m_numW {G : mG} {I : Nat → Nat → Int32} {J : Nat → Nat → Int64} {t : Nat} {tp : Nat → Nat} {L : Nat} {k : aT} (hr : rdM I tp L) (hk : tkM I k) (ho : okT L k) (hw : I 76 15 = nI 1) {x : Int32} : zC G yX7_number (eX7_number (g_rmv 3)) [.ref 76, .int (nI 0), .int x] (mm I J t) (fun r M => r = some (.int (nI k.2.2.2)) ∧ M = mm (up2 I 76 15 (nI 1)) J t) := by
  refine zC_of (by decide +kernel) rfl (by decide) (Nat.le_of_ble_eq_true rfl) ?_
  have o4 := ho.2.2.2
  have o1 := ho.1
  show zV G (eX7_number (g_rmv 3)) (0, 0) 0 [(0, .ref 76), (1, .int (nI 0)), (2, .int x)] [] (mm I J t) _
  refine zV_aload_n dX7_number_0 rfl 0 rfl rfl ?_
  refine zV_getI (x := (nI k.2.2.2)) 14 dX7_number_1 rfl fl_RX7_239 rfl (by decide) rfl hk.2.2.2 ?_
  refine zV_istore_n (lv' := [(0, .ref 76), (1, .int (nI 0)), (2, .int x), (3, .int (nI k.2.2.2))]) dX7_number_4 rfl rfl (by decide) rfl ?_
  refine zV_aload_n dX7_number_5 rfl 0 rfl rfl ?_
  refine zV_aload_n dX7_number_6 rfl 0 rfl rfl ?_
  refine zV_getI (x := (nI (min k.1 3))) 13 dX7_number_7 rfl fl_RX7_242 rfl (by decide) rfl hk.2.2.1 ?_
  refine zV_iconst (v := (nI 2)) dX7_number_10 rfl rfl ?_
  refine zN_icmp_ne (tgt := 27) dX7_number_11 rfl rfl (by omega) (by omega) (fun h11 => ?_) (fun h11 => ?_)
  · refine zV_iconst (v := (nI 0)) dX7_number_27 rfl rfl ?_
    refine zV_callV (E' := eX7_must (g_rmv 2)) (av := [.int (nI 0)]) (st := []) (b := 76) dX7_number_28 rfl (k_RX7_259 _) rfl ⟨by decide, by decide⟩ ⟨by decide, by decide⟩ (Or.inl rfl) rfl (Nat.le_of_ble_eq_true rfl) rfl rfl rfl (m_mustw (x := (nI 0)) hw) (fun r28 M28 z => ?_)
    obtain ⟨rfl, rfl⟩ := z
    show zV G (eX7_number (g_rmv 3)) (0, 0) 31 [(0, .ref 76), (1, .int (nI 0)), (2, .int x), (3, .int (nI k.2.2.2))] [] (mm (up2 I 76 15 (nI 1)) J t) _
    refine zV_iload_n dX7_number_31 rfl 3 rfl rfl ?_
    exact zV_ireturn dX7_number_32 rfl rfl (⟨rfl, rfl⟩)
  · refine zV_iload_n dX7_number_14 rfl 3 rfl rfl ?_
    refine zV_iload_n dX7_number_15 rfl 1 rfl rfl ?_
    refine zV_iload_n dX7_number_16 rfl 2 rfl rfl ?_
    refine zV_callS (E' := eX7_within (g_rmv 0)) (av := [.int (nI k.2.2.2), .int (nI 0), .int x]) (st := [.ref 76]) dX7_number_17 rfl (k_RX7_72 _) rfl ⟨by decide, by decide⟩ ⟨by decide, by decide⟩ (Or.inl rfl) rfl (Nat.le_of_ble_eq_true rfl) (m_within (x := (nI k.2.2.2)) (y := (nI 0)) (z := x)) (fun r17 M17 z => ?_)
    obtain ⟨rfl, rfl⟩ := z
    show zV G (eX7_number (g_rmv 3)) (0, 0) 20 [(0, .ref 76), (1, .int (nI 0)), (2, .int x), (3, .int (nI k.2.2.2))] [.int (b2 ((nI 0) ≤ (nI k.2.2.2) ∧ (nI k.2.2.2) ≤ x)), .ref 76] (mm I J t) _
    refine zB_if_eq (tgt := 27) dX7_number_20 rfl rfl  (fun h20 => ?_) (fun h20 => ?_)
    · refine zV_iconst (v := (nI 0)) dX7_number_27 rfl rfl ?_
      refine zV_callV (E' := eX7_must (g_rmv 2)) (av := [.int (nI 0)]) (st := []) (b := 76) dX7_number_28 rfl (k_RX7_259 _) rfl ⟨by decide, by decide⟩ ⟨by decide, by decide⟩ (Or.inl rfl) rfl (Nat.le_of_ble_eq_true rfl) rfl rfl rfl (m_mustw (x := (nI 0)) hw) (fun r28 M28 z => ?_)
      obtain ⟨rfl, rfl⟩ := z
      show zV G (eX7_number (g_rmv 3)) (0, 0) 31 [(0, .ref 76), (1, .int (nI 0)), (2, .int x), (3, .int (nI k.2.2.2))] [] (mm (up2 I 76 15 (nI 1)) J t) _
      refine zV_iload_n dX7_number_31 rfl 3 rfl rfl ?_
      exact zV_ireturn dX7_number_32 rfl rfl (⟨rfl, rfl⟩)
    · refine zV_iconst (v := (nI 1)) dX7_number_23 rfl rfl ?_
      refine zV_goto (tgt := 28) dX7_number_24 rfl ?_
      refine zV_callV (E' := eX7_must (g_rmv 2)) (av := [.int (nI 1)]) (st := []) (b := 76) dX7_number_28 rfl (k_RX7_259 _) rfl ⟨by decide, by decide⟩ ⟨by decide, by decide⟩ (Or.inl rfl) rfl (Nat.le_of_ble_eq_true rfl) rfl rfl rfl (m_mustw (x := (nI 1)) hw) (fun r28 M28 z => ?_)
      obtain ⟨rfl, rfl⟩ := z
      show zV G (eX7_number (g_rmv 3)) (0, 0) 31 [(0, .ref 76), (1, .int (nI 0)), (2, .int x), (3, .int (nI k.2.2.2))] [] (mm (up2 I 76 15 (nI 1)) J t) _
      refine zV_iload_n dX7_number_31 rfl 3 rfl rfl ?_
      exact zV_ireturn dX7_number_32 rfl rfl (⟨rfl, rfl⟩)

def eF (w a b c d : Nat) (f : Nat) : Nat := if f = 0 then w else if f = 1 then a else if f = 2 then b else if f = 3 then c else d
def itP (I I' : Nat → Nat → Int32) (n : Nat) (e : Nat → Nat) : Prop := (∀ f, f < 5 → I' 84 (5 * n + f) = nI (e f)) ∧ (∀ j, j < 5 * n → I' 84 j = I 84 j) ∧ (∀ i, i ≠ 84 → i ≠ 76 → I' i = I i) ∧ (∀ k, k ≠ 18 → I' 76 k = I 76 k) ∧ I' 76 18 = nI (n + 1)
theorem itP_mk {I : Nat → Nat → Int32} {n w a b c d : Nat} : itP I (up2 (up2 (up2 (up2 (up2 (up2 I 84 (5 * n) (nI w)) 84 (5 * n + 1) (nI a)) 84 (5 * n + 2) (nI b)) 84 (5 * n + 3) (nI c)) 84 (5 * n + 4) (nI d)) 76 18 (nI (n + 1))) n (eF w a b c d) := by
  refine ⟨fun f hf => ?_, fun j hj => ?_, fun i h1 h2 => ?_, fun k hk => ?_, up2_same _ _ _ _⟩
  · rw [up2_ni (by decide)]
    rcases (show f = 0 ∨ f = 1 ∨ f = 2 ∨ f = 3 ∨ f = 4 by omega) with rfl | rfl | rfl | rfl | rfl
    · rw [up2_nk (by omega), up2_nk (by omega), up2_nk (by omega), up2_nk (by omega)]; exact up2_same _ _ _ _
    · rw [up2_nk (by omega), up2_nk (by omega), up2_nk (by omega)]; exact up2_same _ _ _ _
    · rw [up2_nk (by omega), up2_nk (by omega)]; exact up2_same _ _ _ _
    · rw [up2_nk (by omega)]; exact up2_same _ _ _ _
    · exact up2_same _ _ _ _
  · rw [up2_ni (by decide), up2_nk (by omega), up2_nk (by omega), up2_nk (by omega), up2_nk (by omega), up2_nk (by omega)]
  · funext z
    rw [up2_ni h2, up2_ni h1, up2_ni h1, up2_ni h1, up2_ni h1, up2_ni h1]
  · rw [up2_nk hk, up2_ni (by decide), up2_ni (by decide), up2_ni (by decide), up2_ni (by decide), up2_ni (by decide)]
set_option maxRecDepth 100000 in
theorem m_item {G : mG} {I : Nat → Nat → Int32} {J : Nat → Nat → Int64} {t : Nat} {n w a b c d : Nat} (h18 : I 76 18 = nI n) (hn : n < 100) : zC G yX7_item (eX7_item (g_rmv 0)) [.ref 76, .int (nI w), .int (nI a), .int (nI b), .int (nI c), .int (nI d)] (mm I J t) (fun r M => ∃ I', r = none ∧ M = mm I' J t ∧ itP I I' n (eF w a b c d)) := by
  refine zC_of (by decide +kernel) rfl (by decide) (Nat.le_of_ble_eq_true rfl) ?_
  show zV G (eX7_item (g_rmv 0)) (0, 0) 0 [(0, .ref 76), (1, .int (nI w)), (2, .int (nI a)), (3, .int (nI b)), (4, .int (nI c)), (5, .int (nI d))] [] (mm I J t) _
  refine zV_iconst (v := (nI 5)) dX7_item_0 rfl rfl ?_
  refine zV_aload_n dX7_item_1 rfl 0 rfl rfl ?_
  refine zV_getI (x := (nI n)) 18 dX7_item_2 rfl fl_RX7_263 rfl (by decide) rfl h18 ?_
  refine zA_imul (z := (nI (5 * n))) dX7_item_5 rfl  (pk_mul _ _) ?_
  refine zV_istore (lv' := [(0, .ref 76), (1, .int (nI w)), (2, .int (nI a)), (3, .int (nI b)), (4, .int (nI c)), (5, .int (nI d)), (6, .int (nI (5 * n)))]) dX7_item_6 rfl (by decide) rfl ?_
  refine zV_aload_n dX7_item_8 rfl 0 rfl rfl ?_
  refine zV_getr (q' := 84) 17 dX7_item_9 rfl fl_RX7_49 rfl (by decide) rfl rfl ?_
  refine zV_iload dX7_item_12 rfl 6 rfl ?_
  refine zV_iload_n dX7_item_14 rfl 1 rfl rfl ?_
  refine zV_iastore (5 * n) dX7_item_15 rfl rfl rfl (by omega) (by decide)  ?_
  refine zV_aload_n dX7_item_16 rfl 0 rfl rfl ?_
  refine zV_getr (q' := 84) 17 dX7_item_17 rfl fl_RX7_49 rfl (by decide) rfl rfl ?_
  refine zV_iload dX7_item_20 rfl 6 rfl ?_
  refine zV_iconst (v := (nI 1)) dX7_item_22 rfl rfl ?_
  refine zA_iadd (z := (nI ((5 * n) + 1))) dX7_item_23 rfl  (nI_add _ _) ?_
  refine zV_iload_n dX7_item_24 rfl 2 rfl rfl ?_
  refine zV_iastore ((5 * n) + 1) dX7_item_25 rfl rfl rfl (by omega) (by decide)  ?_
  refine zV_aload_n dX7_item_26 rfl 0 rfl rfl ?_
  refine zV_getr (q' := 84) 17 dX7_item_27 rfl fl_RX7_49 rfl (by decide) rfl rfl ?_
  refine zV_iload dX7_item_30 rfl 6 rfl ?_
  refine zV_iconst (v := (nI 2)) dX7_item_32 rfl rfl ?_
  refine zA_iadd (z := (nI ((5 * n) + 2))) dX7_item_33 rfl  (nI_add _ _) ?_
  refine zV_iload_n dX7_item_34 rfl 3 rfl rfl ?_
  refine zV_iastore ((5 * n) + 2) dX7_item_35 rfl rfl rfl (by omega) (by decide)  ?_
  refine zV_aload_n dX7_item_36 rfl 0 rfl rfl ?_
  refine zV_getr (q' := 84) 17 dX7_item_37 rfl fl_RX7_49 rfl (by decide) rfl rfl ?_
  refine zV_iload dX7_item_40 rfl 6 rfl ?_
  refine zV_iconst (v := (nI 3)) dX7_item_42 rfl rfl ?_
  refine zA_iadd (z := (nI ((5 * n) + 3))) dX7_item_43 rfl  (nI_add _ _) ?_
  refine zV_iload dX7_item_44 rfl 4 rfl ?_
  refine zV_iastore ((5 * n) + 3) dX7_item_46 rfl rfl rfl (by omega) (by decide)  ?_
  refine zV_aload_n dX7_item_47 rfl 0 rfl rfl ?_
  refine zV_getr (q' := 84) 17 dX7_item_48 rfl fl_RX7_49 rfl (by decide) rfl rfl ?_
  refine zV_iload dX7_item_51 rfl 6 rfl ?_
  refine zV_iconst (v := (nI 4)) dX7_item_53 rfl rfl ?_
  refine zA_iadd (z := (nI ((5 * n) + 4))) dX7_item_54 rfl  (nI_add _ _) ?_
  refine zV_iload dX7_item_55 rfl 5 rfl ?_
  refine zV_iastore ((5 * n) + 4) dX7_item_57 rfl rfl rfl (by omega) (by decide)  ?_
  refine zV_aload_n dX7_item_58 rfl 0 rfl rfl ?_
  refine zV_dup dX7_item_59 rfl rfl ?_
  refine zV_getI (x := (nI n)) 18 dX7_item_60 rfl fl_RX7_263 rfl (by decide) rfl (by rw [up2_ni (by decide), up2_ni (by decide), up2_ni (by decide), up2_ni (by decide), up2_ni (by decide)]; exact h18) ?_
  refine zV_iconst (v := (nI 1)) dX7_item_63 rfl rfl ?_
  refine zA_iadd (z := (nI (n + 1))) dX7_item_64 rfl  (nI_add _ _) ?_
  refine zV_puti 18 dX7_item_65 rfl fl_RX7_263 rfl (by decide) rfl rfl rfl ?_
  exact zV_return dX7_item_68 rfl (⟨_, rfl, rfl, itP_mk⟩)

def ktl (tp : Nat → Nat) (k : aT) : Nat → Option Nat
  | 0 => none
  | c + 1 => if isW tp k c then some c else ktl tp k c
theorem ktl_t {tp : Nat → Nat} {k : aT} {c : Nat} (h : isW tp k c) : ktl tp k (c + 1) = some c := if_pos h
theorem ktl_f {tp : Nat → Nat} {k : aT} {c : Nat} (h : ¬ isW tp k c) : ktl tp k (c + 1) = ktl tp k c := if_neg h
theorem ktl_no {tp : Nat → Nat} {k : aT} : ∀ c, (∀ t, t < c → ¬ isW tp k t) → ktl tp k c = none
  | 0, _ => rfl
  | c + 1, h => by rw [ktl_f (h c (by omega))]; exact ktl_no c (fun t ht => h t (by omega))
theorem ktl_yes {tp : Nat → Nat} {k : aT} {t : Nat} (h : isW tp k t) : ∀ n, t + 1 + n ≤ 7 → ktl tp k (t + 1 + n) = some t
  | 0, _ => ktl_t h
  | n + 1, hn => by
    have e : ¬ isW tp k (t + 1 + n) := fun z => by have := isW_one (by omega) (by omega) h z; omega
    rw [show t + 1 + (n + 1) = (t + 1 + n) + 1 by omega, ktl_f e]
    exact ktl_yes h n (by omega)
theorem ktl_7 {tp : Nat → Nat} {k : aT} : (kdOf tp k < 7 → ktl tp k 7 = some (kdOf tp k)) ∧ (¬ kdOf tp k < 7 → ktl tp k 7 = none) := by
  constructor
  · intro h
    have hw := of_decide_eq_true (fa_first_yes (fun t => decide (isW tp k t)) 7 h)
    have h9 := ktl_yes hw (7 - (kdOf tp k + 1)) (by unfold kdOf at h ⊢; omega)
    have e : fa_first (fun t => decide (isW tp k t)) 7 + 1 + (7 - (kdOf tp k + 1)) = 7 := by unfold kdOf at h ⊢; omega
    rw [e] at h9
    exact h9
  · intro h
    refine ktl_no 7 (fun t ht hw => h ?_)
    rw [kdOf_is ht hw]
    exact ht
set_option maxRecDepth 100000 in
theorem m_kindTold {G : mG} {I : Nat → Nat → Int32} {J : Nat → Nat → Int64} {t : Nat} {tp : Nat → Nat} {L : Nat} {k : aT} (hr : rdM I tp L) (hk : tkM I k) (ho : okT L k) : zC G yX7_kindTold (eX7_kindTold (g_rmv 6)) [.ref 76] (mm I J t) (fun r M => r = some (.int (ans (ktl tp k 7))) ∧ M = mm I J t) := by
  refine zC_of (by decide +kernel) rfl (by decide) (Nat.le_of_ble_eq_true rfl) ?_
  show zV G (eX7_kindTold (g_rmv 6)) (0, 0) 0 [(0, .ref 76)] [] (mm I J t) _
  refine zV_iconst (v := (-1)) dX7_kindTold_0 rfl rfl ?_
  refine zV_istore_n (lv' := [(0, .ref 76), (1, .int (-1))]) dX7_kindTold_1 rfl rfl (by decide) rfl ?_
  refine zV_iconst (v := (nI 0)) dX7_kindTold_2 rfl rfl ?_
  refine zV_istore_n (lv' := [(0, .ref 76), (1, .int (-1)), (2, .int (nI 0))]) dX7_kindTold_3 rfl rfl (by decide) rfl ?_
  refine z_for (fun c => zV G (eX7_kindTold (g_rmv 6)) (0, 0) 4 [(0, .ref 76), (1, .int (ans (ktl tp k c))), (2, .int (nI c))] [] (mm I J t) _) 7 ?_ ?_ 0 (Nat.zero_le _)
  · skip
    refine zV_iload_n dX7_kindTold_4 rfl 2 rfl rfl ?_
    refine zV_aload_n dX7_kindTold_5 rfl 0 rfl rfl ?_
    refine zV_getr (q' := 83) 16 dX7_kindTold_6 rfl fl_RX7_45 rfl (by decide) rfl rfl ?_
    refine zV_alen (v := nI 7) dX7_kindTold_9 rfl rfl (by decide) rfl ?_
    refine zN_icmp_ge (tgt := 38) dX7_kindTold_10 rfl rfl (by omega) (by omega) (fun _ => ?_) (fun z => absurd z (by omega))
    refine zV_iload_n dX7_kindTold_38 rfl 1 rfl rfl ?_
    exact zV_ireturn dX7_kindTold_39 rfl rfl (⟨rfl, rfl⟩)
  · intro c hc ih
    refine zV_iload_n dX7_kindTold_4 rfl 2 rfl rfl ?_
    refine zV_aload_n dX7_kindTold_5 rfl 0 rfl rfl ?_
    refine zV_getr (q' := 83) 16 dX7_kindTold_6 rfl fl_RX7_45 rfl (by decide) rfl rfl ?_
    refine zV_alen (v := nI 7) dX7_kindTold_9 rfl rfl (by decide) rfl ?_
    refine zN_icmp_ge (tgt := 38) dX7_kindTold_10 rfl rfl (by omega) (by omega) (fun z => absurd z (by omega)) (fun _ => ?_)
    refine zV_aload_n dX7_kindTold_13 rfl 0 rfl rfl ?_
    refine zV_aload_n dX7_kindTold_14 rfl 0 rfl rfl ?_
    refine zV_getr (q' := 83) 16 dX7_kindTold_15 rfl fl_RX7_45 rfl (by decide) rfl rfl ?_
    refine zV_iload_n dX7_kindTold_18 rfl 2 rfl rfl ?_
    refine zV_aaload (q' := (1000 + c)) c dX7_kindTold_19 rfl rfl rfl (by decide) rfl (by omega) (by decide) (R_kind (by omega)) ?_
    refine zV_callV (E' := eX7_isWord (g_rmv 5)) (av := [.ref (1000 + c)]) (st := []) (b := 76) dX7_kindTold_20 rfl (k_RX7_266 _) rfl ⟨by decide, by decide⟩ ⟨by decide, by decide⟩ (Or.inl rfl) rfl (Nat.le_of_ble_eq_true rfl) rfl rfl rfl (m_isWord (t := c) hr hk ho (by omega)) (fun r20 M20 z => ?_)
    obtain ⟨rfl, rfl⟩ := z
    show zV G (eX7_kindTold (g_rmv 6)) (0, 0) 23 [(0, .ref 76), (1, .int (ans (ktl tp k c))), (2, .int (nI c))] [.int (b2 (isW tp k c))] (mm I J t) _
    refine zB_if_eq (tgt := 30) dX7_kindTold_23 rfl rfl  (fun h23 => ?_) (fun h23 => ?_)
    · skip
      refine zV_iload_n dX7_kindTold_30 rfl 1 rfl rfl ?_
      refine zV_istore_n (lv' := [(0, .ref 76), (1, .int (ans (ktl tp k c))), (2, .int (nI c))]) dX7_kindTold_31 rfl rfl (by decide) rfl ?_
      refine zV_iinc (y := (nI (c + 1))) (lv' := [(0, .ref 76), (1, .int (ans (ktl tp k c))), (2, .int (nI (c + 1)))]) dX7_kindTold_32 rfl 2 rfl (nI_1 _) (by decide) rfl ?_
      refine zV_goto (tgt := 4) dX7_kindTold_35 rfl ?_
      rw [ktl_f h23] at ih
      exact ih
    · skip
      refine zV_iload_n dX7_kindTold_26 rfl 2 rfl rfl ?_
      refine zV_goto (tgt := 31) dX7_kindTold_27 rfl ?_
      refine zV_istore_n (lv' := [(0, .ref 76), (1, .int (nI c)), (2, .int (nI c))]) dX7_kindTold_31 rfl rfl (by decide) rfl ?_
      refine zV_iinc (y := (nI (c + 1))) (lv' := [(0, .ref 76), (1, .int (nI c)), (2, .int (nI (c + 1)))]) dX7_kindTold_32 rfl 2 rfl (nI_1 _) (by decide) rfl ?_
      refine zV_goto (tgt := 4) dX7_kindTold_35 rfl ?_
      rw [ktl_t h23] at ih
      exact ih

def ap1 (e : Nat → Nat) (τ : aL) : aL := if e 0 = 10 then ld_cset τ (e 1) (k_set (k_turn (τ.2.1 (e 1))) 1 (e 2)) else ld_strike τ (e 0) (e 1) (e 2) (e 3) (e 4)
def okE (e : Nat → Nat) (τ : aL) : Prop := e 0 ≤ 10 ∧ (if e 0 = 10 then (e 1 < τ.1 ∧ e 2 < 4) else τ.1 < 10)
def rdn (I I' : Nat → Nat → Int32) (n : Nat) (τ : aL) (R : aR) : Prop := tkM I' R.2.1 ∧ I' 76 15 = nI (if R.1 = true then 0 else 1) ∧ (R.1 = true → ∃ e : Nat → Nat, ap1 e τ = R.2.2 ∧ okE e τ ∧ (∀ f, f < 5 → I' 84 (5 * n + f) = nI (e f)) ∧ I' 76 18 = nI (n + 1) ∧ I' 76 19 = nI R.2.2.1 ∧ ∀ c, c < R.2.2.1 → I' 85 c = nI (R.2.2.2.1 c 1)) ∧ (∀ i, i ≠ 76 → i ≠ 84 → i ≠ 85 → I' i = I i) ∧ (∀ j, j < 5 * n → I' 84 j = I 84 j) ∧ ∀ k, k < 11 → I' 76 k = I 76 k
theorem tkM.mv {I I' : Nat → Nat → Int32} {k : aT} (h : tkM I k) (e : ∀ j, 11 ≤ j → j ≤ 14 → I' 76 j = I 76 j) : tkM I' k := ⟨(e 11 (by decide) (by decide)).trans h.1, (e 12 (by decide) (by decide)).trans h.2.1, (e 13 (by decide) (by decide)).trans h.2.2.1, (e 14 (by decide) (by decide)).trans h.2.2.2⟩
theorem rdn_bad {I I1 Im I' : Nat → Nat → Int32} {n : Nat} {τ : aL} {R : aR} {K : aT} {e : Nat → Nat} (hf : fr7 I I1) (hk : tkM I1 K) (hw : I1 76 15 = nI 1) (hm : ∀ i, i ≠ 85 → Im i = I1 i) (hi : itP Im I' n e) (hR : R = (false, K, τ)) : rdn I I' n τ R := by
  subst hR
  have h76 : ∀ k, k ≠ 18 → I' 76 k = I1 76 k := fun k hk => by rw [hi.2.2.2.1 k hk, hm 76 (by decide)]
  exact ⟨hk.mv (fun j h1 h2 => h76 j (by omega)), (h76 15 (by decide)).trans hw, fun z => (by cases z), fun i h1 h2 h3 => by rw [hi.2.2.1 i h2 h1, hm i h3]; exact hf.1 i h1, fun j hj => by rw [hi.2.1 j hj, hm 84 (by decide), hf.1 84 (by decide)], fun k hk => (h76 k (by omega)).trans (hf.2 k (by omega))⟩
theorem rdn_good {I I1 Im I' : Nat → Nat → Int32} {n : Nat} {τ τ' : aL} {R : aR} {K : aT} {e : Nat → Nat} (hf : fr7 I I1) (hk : tkM I1 K) (hw : I1 76 15 = nI 0) (hm : ∀ i, i ≠ 85 → i ≠ 76 → Im i = I1 i) (hm2 : ∀ k, k ≠ 19 → Im 76 k = I1 76 k) (hi : itP Im I' n e) (hR : R = (true, K, τ')) (ha : ap1 e τ = τ') (ho : okE e τ) (h19 : Im 76 19 = nI τ'.1) (h85 : ∀ c, c < τ'.1 → Im 85 c = nI (τ'.2.1 c 1)) : rdn I I' n τ R := by
  subst hR
  have h76 : ∀ k, k ≠ 18 → k ≠ 19 → I' 76 k = I1 76 k := fun k h1 h2 => by rw [hi.2.2.2.1 k h1, hm2 k h2]
  exact ⟨hk.mv (fun j h1 h2 => h76 j (by omega) (by omega)), (h76 15 (by decide) (by decide)).trans hw, fun _ => ⟨e, ha, ho, hi.1, hi.2.2.2.2, (hi.2.2.2.1 19 (by decide)).trans h19, fun c hc => by rw [hi.2.2.1 85 (by decide) (by decide)]; exact h85 c hc⟩, fun i h1 h2 h3 => by rw [hi.2.2.1 i h2 h1, hm i h3 h1]; exact hf.1 i h1, fun j hj => by rw [hi.2.1 j hj, hm 84 (by decide) (by decide), hf.1 84 (by decide)], fun k hk => (h76 k (by omega) (by omega)).trans (hf.2 k (by omega))⟩
theorem stk_00 (σ : aL) (kd kg sp : Nat) : ld_strike σ kd kg sp 0 0 = ld_add σ kd kg sp := by
  unfold ld_strike ld_add
  congr 2
  funext c f
  by_cases e : c = σ.1
  · simp only [e, if_true]
    by_cases f0 : f = 0 <;> by_cases f1 : f = 1 <;> by_cases f2 : f = 2 <;> by_cases f3 : f = 3 <;> by_cases f4 : f = 4 <;> simp_all
  · simp only [e, if_false]
theorem stk_p (σ : aL) (kd kg sp p : Nat) : ld_strike σ kd kg sp p 0 = ld_cset (ld_add σ kd kg sp) σ.1 (k_set ((ld_add σ kd kg sp).2.1 σ.1) 1 p) := by
  unfold ld_strike ld_cset ld_add k_set
  congr 2
  funext c f
  by_cases e : c = σ.1
  · simp only [e, if_true]
    by_cases f0 : f = 0 <;> by_cases f1 : f = 1 <;> by_cases f2 : f = 2 <;> by_cases f3 : f = 3 <;> by_cases f4 : f = 4 <;> simp_all
  · simp only [e, if_false]
theorem stk_l (σ : aL) (kd kg sp p : Nat) : ld_strike σ kd kg sp p 1 = ld_cset (ld_strike σ kd kg sp p 0) σ.1 (k_set ((ld_strike σ kd kg sp p 0).2.1 σ.1) 4 1) := by
  unfold ld_strike ld_cset k_set
  congr 2
  funext c f
  by_cases e : c = σ.1
  · simp only [e, if_true]
    by_cases f0 : f = 0 <;> by_cases f1 : f = 1 <;> by_cases f2 : f = 2 <;> by_cases f3 : f = 3 <;> by_cases f4 : f = 4 <;> simp_all
  · simp only [e, if_false]