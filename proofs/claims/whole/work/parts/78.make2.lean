/-! CONSTRUCTORS: lands -/
def RLd (b : Nat) (R : Nat → Nat → Option Nat) : Nat → Nat → Option Nat := up2 (up2 (up2 (up2 (up2 (up2 (up2 (up2 (up2 (up2 (up2 (up2 R b 0 (some (b + 1))) b 1 (some (b + 2))) (b + 1) 0 (some (b + 3))) (b + 1) 1 (some (b + 4))) (b + 1) 2 (some (b + 5))) (b + 1) 3 (some (b + 6))) (b + 1) 4 (some (b + 7))) (b + 1) 5 (some (b + 8))) (b + 1) 6 (some (b + 9))) (b + 1) 7 (some (b + 10))) (b + 1) 8 (some (b + 11))) (b + 1) 9 (some (b + 12))
set_option maxRecDepth 100000 in
theorem n_land1 {G : mG} {I : Nat → Nat → Int32} {J : Nat → Nat → Int64} {R : Nat → Nat → Option Nat} (hz : ∀ k, I 1 k = 0) (hn : g_new (sh0.take 2, I, J, R)) : zC G yX1_init (eX1_init (g_rmc 2 12 80)) [.ref 1] (sh0.take 2, I, J, R) (fun r M => ∃ I', r = none ∧ M = (sh0.take 14, I', J, RLd 1 R) ∧ I' 1 4 = nI 1 ∧ (∀ k, k ≠ 4 → I' 1 k = I 1 k) ∧ (∀ s, s < 10 → I' 3 s = -1) ∧ ∀ i, i ≠ 1 → i ≠ 3 → I' i = I i) := by
  refine zC_of (by decide +kernel) rfl (by decide) (Nat.le_of_ble_eq_true rfl) ?_
  show zV G (eX1_init (g_rmc 2 12 80)) (0, 0) 0 [(0, .ref 1)] [] (sh0.take 2, I, J, R) _
  refine zV_aload_n dX1_init_0 rfl 0 rfl rfl ?_
  refine zV_objInit dX1_init_1 rfl ko_RX1_3 (by decide) (by decide) ?_
  refine zV_aload_n dX1_init_4 rfl 0 rfl rfl ?_
  refine zV_bipush (v := (nI 10)) dX1_init_5 rfl rfl ?_
  refine zV_newq (t := 3) (N := 10) dX1_init_7 rfl tw32 (by decide) rfl (by decide) rfl (by decide) hn (by decide) ⟨by decide, by decide⟩ ?_
  have gn3 := gn_le hn (show 2 ≤ 3 by decide)
  show zV G (eX1_init (g_rmc 2 12 80)) (1, 10) 10 [(0, .ref 1)] [.ref 2, .ref 1] (sh0.take 3, I, J, R) _
  refine zV_putF (q' := 2) 0 dX1_init_10 rfl rfl fl_RX1_11 rfl (by decide) rfl (fun _ => rfl) (fun _ => rfl) ?_
  refine zV_aload_n dX1_init_13 rfl 0 rfl rfl ?_
  refine zV_bipush (v := (nI 10)) dX1_init_14 rfl rfl ?_
  refine zV_newa (t := 0) (N := 10) dX1_init_16 rfl tw73 rfl (by decide) rfl (by decide) (gn_R (q := 1) (k := 0) (v := some 2) gn3 (by decide)) (by decide) ⟨by decide, by decide⟩ ?_
  have gn4 := gn_le (gn_R (q := 1) (k := 0) (v := some 2) gn3 (by decide)) (show 3 ≤ 4 by decide)
  show zV G (eX1_init (g_rmc 2 12 80)) (2, 20) 18 [(0, .ref 1)] [.ref 3, .ref 1] (sh0.take 4, I, J, (up2 R 1 0 (some 2))) _
  refine zV_putF (q' := 3) 1 dX1_init_18 rfl rfl fl_RX1_17 rfl (by decide) rfl (fun _ => rfl) (fun _ => rfl) ?_
  refine zV_aload_n dX1_init_21 rfl 0 rfl rfl ?_
  refine zV_iconst (v := (nI 0)) dX1_init_22 rfl rfl ?_
  refine zV_puti 2 dX1_init_23 rfl fl_RX1_21 rfl (by decide) rfl rfl rfl ?_
  rw [up2_id (show I 1 2 = nI 0 from (hz _))]
  refine zV_aload_n dX1_init_26 rfl 0 rfl rfl ?_
  refine zV_iconst (v := (nI 0)) dX1_init_27 rfl rfl ?_
  refine zV_puti 3 dX1_init_28 rfl fl_RX1_25 rfl (by decide) rfl rfl rfl ?_
  rw [up2_id (show I 1 3 = nI 0 from (hz _))]
  refine zV_aload_n dX1_init_31 rfl 0 rfl rfl ?_
  refine zV_iconst (v := (nI 1)) dX1_init_32 rfl rfl ?_
  refine zV_puti 4 dX1_init_33 rfl fl_RX1_28 rfl (by decide) rfl rfl rfl ?_
  refine zV_iconst (v := (nI 0)) dX1_init_36 rfl rfl ?_
  refine zV_istore_n (lv' := [(0, .ref 1), (1, .int (nI 0))]) dX1_init_37 rfl rfl (by decide) rfl ?_
  refine zV_iload_n dX1_init_38 rfl 1 rfl rfl ?_
  refine zV_bipush (v := (nI 10)) dX1_init_39 rfl rfl ?_
  refine zN_icmp_ge (tgt := 63) dX1_init_41 rfl rfl (by decide) (by decide) (fun z => absurd z (by decide)) (fun _ => ?_)
  refine zV_aload_n dX1_init_44 rfl 0 rfl rfl ?_
  refine zV_getr (q' := 2) 0 dX1_init_45 rfl fl_RX1_11 rfl (by decide) rfl rfl ?_
  refine zV_iload_n dX1_init_48 rfl 1 rfl rfl ?_
  refine zV_new (ci := 0) dX1_init_49 rfl ⟨tw32, tw34, tw3⟩ rfl (by decide) (gn_I (q := 1) (k := 4) (v := (nI 1)) (gn_R (q := 1) (k := 1) (v := some 3) gn4 (by decide)) (by decide)) (by decide) ⟨by decide, by decide⟩ ?_
  have gn5 := gn_le (gn_I (q := 1) (k := 4) (v := (nI 1)) (gn_R (q := 1) (k := 1) (v := some 3) gn4 (by decide)) (by decide)) (show 4 ≤ 5 by decide)
  show zV G (eX1_init (g_rmc 2 12 80)) (3, 26) 52 [(0, .ref 1), (1, .int (nI 0))] [.ref 4, .int (nI 0), .ref 2] (sh0.take 5, (up2 I 1 4 (nI 1)), J, (up2 (up2 R 1 0 (some 2)) 1 1 (some 3))) _
  refine zV_dup dX1_init_52 rfl rfl ?_
  refine zV_callIN (E' := eX0_init (g_rmv 1)) (av := []) (st := [.ref 4, .int (nI 0), .ref 2]) (b := 4) dX1_init_53 rfl (k_RX1_31 _) rfl ⟨by decide, by decide⟩ ⟨by decide, by decide⟩ (Or.inl rfl) rfl (Nat.le_of_ble_eq_true rfl) (n_coin (q := 4) rfl (fun k => (gn_at (gn_I (q := 1) (k := 4) (v := (nI 1)) (gn_R (q := 1) (k := 1) (v := some 3) gn4 (by decide)) (by decide)) _))) (fun r53 M53 z => ?_)
  obtain ⟨rfl, rfl⟩ := z
  show zV G (eX1_init (g_rmc 2 12 80)) (3, 26) 56 [(0, .ref 1), (1, .int (nI 0))] [.ref 4, .int (nI 0), .ref 2] (sh0.take 5, (up2 I 1 4 (nI 1)), J, (up2 (up2 R 1 0 (some 2)) 1 1 (some 3))) _
  refine zV_aastore (q' := 4) 0 dX1_init_56 rfl rfl rfl rfl rfl (by decide) rfl (by decide) (by decide) ?_
  refine zV_iinc (y := (nI 1)) (lv' := [(0, .ref 1), (1, .int (nI 1))]) dX1_init_57 rfl 1 rfl (rfl) (by decide) rfl ?_
  refine zV_goto (tgt := 38) dX1_init_60 rfl ?_
  refine zV_iload_n dX1_init_38 rfl 1 rfl rfl ?_
  refine zV_bipush (v := (nI 10)) dX1_init_39 rfl rfl ?_
  refine zN_icmp_ge (tgt := 63) dX1_init_41 rfl rfl (by decide) (by decide) (fun z => absurd z (by decide)) (fun _ => ?_)
  refine zV_aload_n dX1_init_44 rfl 0 rfl rfl ?_
  refine zV_getr (q' := 2) 0 dX1_init_45 rfl fl_RX1_11 rfl (by decide) rfl rfl ?_
  refine zV_iload_n dX1_init_48 rfl 1 rfl rfl ?_
  refine zV_new (ci := 0) dX1_init_49 rfl ⟨tw32, tw34, tw3⟩ rfl (by decide) (gn_R (q := 2) (k := 0) (v := some 4) gn5 (by decide)) (by decide) ⟨by decide, by decide⟩ ?_
  have gn6 := gn_le (gn_R (q := 2) (k := 0) (v := some 4) gn5 (by decide)) (show 5 ≤ 6 by decide)
  show zV G (eX1_init (g_rmc 2 12 80)) (4, 32) 52 [(0, .ref 1), (1, .int (nI 1))] [.ref 5, .int (nI 1), .ref 2] (sh0.take 6, (up2 I 1 4 (nI 1)), J, (up2 (up2 (up2 R 1 0 (some 2)) 1 1 (some 3)) 2 0 (some 4))) _
  refine zV_dup dX1_init_52 rfl rfl ?_
  refine zV_callIN (E' := eX0_init (g_rmv 1)) (av := []) (st := [.ref 5, .int (nI 1), .ref 2]) (b := 5) dX1_init_53 rfl (k_RX1_31 _) rfl ⟨by decide, by decide⟩ ⟨by decide, by decide⟩ (Or.inl rfl) rfl (Nat.le_of_ble_eq_true rfl) (n_coin (q := 5) rfl (fun k => (gn_at (gn_R (q := 2) (k := 0) (v := some 4) gn5 (by decide)) _))) (fun r53 M53 z => ?_)
  obtain ⟨rfl, rfl⟩ := z
  show zV G (eX1_init (g_rmc 2 12 80)) (4, 32) 56 [(0, .ref 1), (1, .int (nI 1))] [.ref 5, .int (nI 1), .ref 2] (sh0.take 6, (up2 I 1 4 (nI 1)), J, (up2 (up2 (up2 R 1 0 (some 2)) 1 1 (some 3)) 2 0 (some 4))) _
  refine zV_aastore (q' := 5) 1 dX1_init_56 rfl rfl rfl rfl rfl (by decide) rfl (by decide) (by decide) ?_
  refine zV_iinc (y := (nI 2)) (lv' := [(0, .ref 1), (1, .int (nI 2))]) dX1_init_57 rfl 1 rfl (rfl) (by decide) rfl ?_
  refine zV_goto (tgt := 38) dX1_init_60 rfl ?_
  refine zV_iload_n dX1_init_38 rfl 1 rfl rfl ?_
  refine zV_bipush (v := (nI 10)) dX1_init_39 rfl rfl ?_
  refine zN_icmp_ge (tgt := 63) dX1_init_41 rfl rfl (by decide) (by decide) (fun z => absurd z (by decide)) (fun _ => ?_)
  refine zV_aload_n dX1_init_44 rfl 0 rfl rfl ?_
  refine zV_getr (q' := 2) 0 dX1_init_45 rfl fl_RX1_11 rfl (by decide) rfl rfl ?_
  refine zV_iload_n dX1_init_48 rfl 1 rfl rfl ?_
  refine zV_new (ci := 0) dX1_init_49 rfl ⟨tw32, tw34, tw3⟩ rfl (by decide) (gn_R (q := 2) (k := 1) (v := some 5) gn6 (by decide)) (by decide) ⟨by decide, by decide⟩ ?_
  have gn7 := gn_le (gn_R (q := 2) (k := 1) (v := some 5) gn6 (by decide)) (show 6 ≤ 7 by decide)
  show zV G (eX1_init (g_rmc 2 12 80)) (5, 38) 52 [(0, .ref 1), (1, .int (nI 2))] [.ref 6, .int (nI 2), .ref 2] (sh0.take 7, (up2 I 1 4 (nI 1)), J, (up2 (up2 (up2 (up2 R 1 0 (some 2)) 1 1 (some 3)) 2 0 (some 4)) 2 1 (some 5))) _
  refine zV_dup dX1_init_52 rfl rfl ?_
  refine zV_callIN (E' := eX0_init (g_rmv 1)) (av := []) (st := [.ref 6, .int (nI 2), .ref 2]) (b := 6) dX1_init_53 rfl (k_RX1_31 _) rfl ⟨by decide, by decide⟩ ⟨by decide, by decide⟩ (Or.inl rfl) rfl (Nat.le_of_ble_eq_true rfl) (n_coin (q := 6) rfl (fun k => (gn_at (gn_R (q := 2) (k := 1) (v := some 5) gn6 (by decide)) _))) (fun r53 M53 z => ?_)
  obtain ⟨rfl, rfl⟩ := z
  show zV G (eX1_init (g_rmc 2 12 80)) (5, 38) 56 [(0, .ref 1), (1, .int (nI 2))] [.ref 6, .int (nI 2), .ref 2] (sh0.take 7, (up2 I 1 4 (nI 1)), J, (up2 (up2 (up2 (up2 R 1 0 (some 2)) 1 1 (some 3)) 2 0 (some 4)) 2 1 (some 5))) _
  refine zV_aastore (q' := 6) 2 dX1_init_56 rfl rfl rfl rfl rfl (by decide) rfl (by decide) (by decide) ?_
  refine zV_iinc (y := (nI 3)) (lv' := [(0, .ref 1), (1, .int (nI 3))]) dX1_init_57 rfl 1 rfl (rfl) (by decide) rfl ?_
  refine zV_goto (tgt := 38) dX1_init_60 rfl ?_
  refine zV_iload_n dX1_init_38 rfl 1 rfl rfl ?_
  refine zV_bipush (v := (nI 10)) dX1_init_39 rfl rfl ?_
  refine zN_icmp_ge (tgt := 63) dX1_init_41 rfl rfl (by decide) (by decide) (fun z => absurd z (by decide)) (fun _ => ?_)
  refine zV_aload_n dX1_init_44 rfl 0 rfl rfl ?_
  refine zV_getr (q' := 2) 0 dX1_init_45 rfl fl_RX1_11 rfl (by decide) rfl rfl ?_
  refine zV_iload_n dX1_init_48 rfl 1 rfl rfl ?_
  refine zV_new (ci := 0) dX1_init_49 rfl ⟨tw32, tw34, tw3⟩ rfl (by decide) (gn_R (q := 2) (k := 2) (v := some 6) gn7 (by decide)) (by decide) ⟨by decide, by decide⟩ ?_
  have gn8 := gn_le (gn_R (q := 2) (k := 2) (v := some 6) gn7 (by decide)) (show 7 ≤ 8 by decide)
  show zV G (eX1_init (g_rmc 2 12 80)) (6, 44) 52 [(0, .ref 1), (1, .int (nI 3))] [.ref 7, .int (nI 3), .ref 2] (sh0.take 8, (up2 I 1 4 (nI 1)), J, (up2 (up2 (up2 (up2 (up2 R 1 0 (some 2)) 1 1 (some 3)) 2 0 (some 4)) 2 1 (some 5)) 2 2 (some 6))) _
  refine zV_dup dX1_init_52 rfl rfl ?_
  refine zV_callIN (E' := eX0_init (g_rmv 1)) (av := []) (st := [.ref 7, .int (nI 3), .ref 2]) (b := 7) dX1_init_53 rfl (k_RX1_31 _) rfl ⟨by decide, by decide⟩ ⟨by decide, by decide⟩ (Or.inl rfl) rfl (Nat.le_of_ble_eq_true rfl) (n_coin (q := 7) rfl (fun k => (gn_at (gn_R (q := 2) (k := 2) (v := some 6) gn7 (by decide)) _))) (fun r53 M53 z => ?_)
  obtain ⟨rfl, rfl⟩ := z
  show zV G (eX1_init (g_rmc 2 12 80)) (6, 44) 56 [(0, .ref 1), (1, .int (nI 3))] [.ref 7, .int (nI 3), .ref 2] (sh0.take 8, (up2 I 1 4 (nI 1)), J, (up2 (up2 (up2 (up2 (up2 R 1 0 (some 2)) 1 1 (some 3)) 2 0 (some 4)) 2 1 (some 5)) 2 2 (some 6))) _
  refine zV_aastore (q' := 7) 3 dX1_init_56 rfl rfl rfl rfl rfl (by decide) rfl (by decide) (by decide) ?_
  refine zV_iinc (y := (nI 4)) (lv' := [(0, .ref 1), (1, .int (nI 4))]) dX1_init_57 rfl 1 rfl (rfl) (by decide) rfl ?_
  refine zV_goto (tgt := 38) dX1_init_60 rfl ?_
  refine zV_iload_n dX1_init_38 rfl 1 rfl rfl ?_
  refine zV_bipush (v := (nI 10)) dX1_init_39 rfl rfl ?_
  refine zN_icmp_ge (tgt := 63) dX1_init_41 rfl rfl (by decide) (by decide) (fun z => absurd z (by decide)) (fun _ => ?_)
  refine zV_aload_n dX1_init_44 rfl 0 rfl rfl ?_
  refine zV_getr (q' := 2) 0 dX1_init_45 rfl fl_RX1_11 rfl (by decide) rfl rfl ?_
  refine zV_iload_n dX1_init_48 rfl 1 rfl rfl ?_
  refine zV_new (ci := 0) dX1_init_49 rfl ⟨tw32, tw34, tw3⟩ rfl (by decide) (gn_R (q := 2) (k := 3) (v := some 7) gn8 (by decide)) (by decide) ⟨by decide, by decide⟩ ?_
  have gn9 := gn_le (gn_R (q := 2) (k := 3) (v := some 7) gn8 (by decide)) (show 8 ≤ 9 by decide)
  show zV G (eX1_init (g_rmc 2 12 80)) (7, 50) 52 [(0, .ref 1), (1, .int (nI 4))] [.ref 8, .int (nI 4), .ref 2] (sh0.take 9, (up2 I 1 4 (nI 1)), J, (up2 (up2 (up2 (up2 (up2 (up2 R 1 0 (some 2)) 1 1 (some 3)) 2 0 (some 4)) 2 1 (some 5)) 2 2 (some 6)) 2 3 (some 7))) _
  refine zV_dup dX1_init_52 rfl rfl ?_
  refine zV_callIN (E' := eX0_init (g_rmv 1)) (av := []) (st := [.ref 8, .int (nI 4), .ref 2]) (b := 8) dX1_init_53 rfl (k_RX1_31 _) rfl ⟨by decide, by decide⟩ ⟨by decide, by decide⟩ (Or.inl rfl) rfl (Nat.le_of_ble_eq_true rfl) (n_coin (q := 8) rfl (fun k => (gn_at (gn_R (q := 2) (k := 3) (v := some 7) gn8 (by decide)) _))) (fun r53 M53 z => ?_)
  obtain ⟨rfl, rfl⟩ := z
  show zV G (eX1_init (g_rmc 2 12 80)) (7, 50) 56 [(0, .ref 1), (1, .int (nI 4))] [.ref 8, .int (nI 4), .ref 2] (sh0.take 9, (up2 I 1 4 (nI 1)), J, (up2 (up2 (up2 (up2 (up2 (up2 R 1 0 (some 2)) 1 1 (some 3)) 2 0 (some 4)) 2 1 (some 5)) 2 2 (some 6)) 2 3 (some 7))) _
  refine zV_aastore (q' := 8) 4 dX1_init_56 rfl rfl rfl rfl rfl (by decide) rfl (by decide) (by decide) ?_
  refine zV_iinc (y := (nI 5)) (lv' := [(0, .ref 1), (1, .int (nI 5))]) dX1_init_57 rfl 1 rfl (rfl) (by decide) rfl ?_
  refine zV_goto (tgt := 38) dX1_init_60 rfl ?_
  refine zV_iload_n dX1_init_38 rfl 1 rfl rfl ?_
  refine zV_bipush (v := (nI 10)) dX1_init_39 rfl rfl ?_
  refine zN_icmp_ge (tgt := 63) dX1_init_41 rfl rfl (by decide) (by decide) (fun z => absurd z (by decide)) (fun _ => ?_)
  refine zV_aload_n dX1_init_44 rfl 0 rfl rfl ?_
  refine zV_getr (q' := 2) 0 dX1_init_45 rfl fl_RX1_11 rfl (by decide) rfl rfl ?_
  refine zV_iload_n dX1_init_48 rfl 1 rfl rfl ?_
  refine zV_new (ci := 0) dX1_init_49 rfl ⟨tw32, tw34, tw3⟩ rfl (by decide) (gn_R (q := 2) (k := 4) (v := some 8) gn9 (by decide)) (by decide) ⟨by decide, by decide⟩ ?_
  have gn10 := gn_le (gn_R (q := 2) (k := 4) (v := some 8) gn9 (by decide)) (show 9 ≤ 10 by decide)
  show zV G (eX1_init (g_rmc 2 12 80)) (8, 56) 52 [(0, .ref 1), (1, .int (nI 5))] [.ref 9, .int (nI 5), .ref 2] (sh0.take 10, (up2 I 1 4 (nI 1)), J, (up2 (up2 (up2 (up2 (up2 (up2 (up2 R 1 0 (some 2)) 1 1 (some 3)) 2 0 (some 4)) 2 1 (some 5)) 2 2 (some 6)) 2 3 (some 7)) 2 4 (some 8))) _
  refine zV_dup dX1_init_52 rfl rfl ?_
  refine zV_callIN (E' := eX0_init (g_rmv 1)) (av := []) (st := [.ref 9, .int (nI 5), .ref 2]) (b := 9) dX1_init_53 rfl (k_RX1_31 _) rfl ⟨by decide, by decide⟩ ⟨by decide, by decide⟩ (Or.inl rfl) rfl (Nat.le_of_ble_eq_true rfl) (n_coin (q := 9) rfl (fun k => (gn_at (gn_R (q := 2) (k := 4) (v := some 8) gn9 (by decide)) _))) (fun r53 M53 z => ?_)
  obtain ⟨rfl, rfl⟩ := z
  show zV G (eX1_init (g_rmc 2 12 80)) (8, 56) 56 [(0, .ref 1), (1, .int (nI 5))] [.ref 9, .int (nI 5), .ref 2] (sh0.take 10, (up2 I 1 4 (nI 1)), J, (up2 (up2 (up2 (up2 (up2 (up2 (up2 R 1 0 (some 2)) 1 1 (some 3)) 2 0 (some 4)) 2 1 (some 5)) 2 2 (some 6)) 2 3 (some 7)) 2 4 (some 8))) _
  refine zV_aastore (q' := 9) 5 dX1_init_56 rfl rfl rfl rfl rfl (by decide) rfl (by decide) (by decide) ?_
  refine zV_iinc (y := (nI 6)) (lv' := [(0, .ref 1), (1, .int (nI 6))]) dX1_init_57 rfl 1 rfl (rfl) (by decide) rfl ?_
  refine zV_goto (tgt := 38) dX1_init_60 rfl ?_
  refine zV_iload_n dX1_init_38 rfl 1 rfl rfl ?_
  refine zV_bipush (v := (nI 10)) dX1_init_39 rfl rfl ?_
  refine zN_icmp_ge (tgt := 63) dX1_init_41 rfl rfl (by decide) (by decide) (fun z => absurd z (by decide)) (fun _ => ?_)
  refine zV_aload_n dX1_init_44 rfl 0 rfl rfl ?_
  refine zV_getr (q' := 2) 0 dX1_init_45 rfl fl_RX1_11 rfl (by decide) rfl rfl ?_
  refine zV_iload_n dX1_init_48 rfl 1 rfl rfl ?_
  refine zV_new (ci := 0) dX1_init_49 rfl ⟨tw32, tw34, tw3⟩ rfl (by decide) (gn_R (q := 2) (k := 5) (v := some 9) gn10 (by decide)) (by decide) ⟨by decide, by decide⟩ ?_
  have gn11 := gn_le (gn_R (q := 2) (k := 5) (v := some 9) gn10 (by decide)) (show 10 ≤ 11 by decide)
  show zV G (eX1_init (g_rmc 2 12 80)) (9, 62) 52 [(0, .ref 1), (1, .int (nI 6))] [.ref 10, .int (nI 6), .ref 2] (sh0.take 11, (up2 I 1 4 (nI 1)), J, (up2 (up2 (up2 (up2 (up2 (up2 (up2 (up2 R 1 0 (some 2)) 1 1 (some 3)) 2 0 (some 4)) 2 1 (some 5)) 2 2 (some 6)) 2 3 (some 7)) 2 4 (some 8)) 2 5 (some 9))) _
  refine zV_dup dX1_init_52 rfl rfl ?_
  refine zV_callIN (E' := eX0_init (g_rmv 1)) (av := []) (st := [.ref 10, .int (nI 6), .ref 2]) (b := 10) dX1_init_53 rfl (k_RX1_31 _) rfl ⟨by decide, by decide⟩ ⟨by decide, by decide⟩ (Or.inl rfl) rfl (Nat.le_of_ble_eq_true rfl) (n_coin (q := 10) rfl (fun k => (gn_at (gn_R (q := 2) (k := 5) (v := some 9) gn10 (by decide)) _))) (fun r53 M53 z => ?_)
  obtain ⟨rfl, rfl⟩ := z
  show zV G (eX1_init (g_rmc 2 12 80)) (9, 62) 56 [(0, .ref 1), (1, .int (nI 6))] [.ref 10, .int (nI 6), .ref 2] (sh0.take 11, (up2 I 1 4 (nI 1)), J, (up2 (up2 (up2 (up2 (up2 (up2 (up2 (up2 R 1 0 (some 2)) 1 1 (some 3)) 2 0 (some 4)) 2 1 (some 5)) 2 2 (some 6)) 2 3 (some 7)) 2 4 (some 8)) 2 5 (some 9))) _
  refine zV_aastore (q' := 10) 6 dX1_init_56 rfl rfl rfl rfl rfl (by decide) rfl (by decide) (by decide) ?_
  refine zV_iinc (y := (nI 7)) (lv' := [(0, .ref 1), (1, .int (nI 7))]) dX1_init_57 rfl 1 rfl (rfl) (by decide) rfl ?_
  refine zV_goto (tgt := 38) dX1_init_60 rfl ?_
  refine zV_iload_n dX1_init_38 rfl 1 rfl rfl ?_
  refine zV_bipush (v := (nI 10)) dX1_init_39 rfl rfl ?_
  refine zN_icmp_ge (tgt := 63) dX1_init_41 rfl rfl (by decide) (by decide) (fun z => absurd z (by decide)) (fun _ => ?_)
  refine zV_aload_n dX1_init_44 rfl 0 rfl rfl ?_
  refine zV_getr (q' := 2) 0 dX1_init_45 rfl fl_RX1_11 rfl (by decide) rfl rfl ?_
  refine zV_iload_n dX1_init_48 rfl 1 rfl rfl ?_
  refine zV_new (ci := 0) dX1_init_49 rfl ⟨tw32, tw34, tw3⟩ rfl (by decide) (gn_R (q := 2) (k := 6) (v := some 10) gn11 (by decide)) (by decide) ⟨by decide, by decide⟩ ?_
  have gn12 := gn_le (gn_R (q := 2) (k := 6) (v := some 10) gn11 (by decide)) (show 11 ≤ 12 by decide)
  show zV G (eX1_init (g_rmc 2 12 80)) (10, 68) 52 [(0, .ref 1), (1, .int (nI 7))] [.ref 11, .int (nI 7), .ref 2] (sh0.take 12, (up2 I 1 4 (nI 1)), J, (up2 (up2 (up2 (up2 (up2 (up2 (up2 (up2 (up2 R 1 0 (some 2)) 1 1 (some 3)) 2 0 (some 4)) 2 1 (some 5)) 2 2 (some 6)) 2 3 (some 7)) 2 4 (some 8)) 2 5 (some 9)) 2 6 (some 10))) _
  refine zV_dup dX1_init_52 rfl rfl ?_
  refine zV_callIN (E' := eX0_init (g_rmv 1)) (av := []) (st := [.ref 11, .int (nI 7), .ref 2]) (b := 11) dX1_init_53 rfl (k_RX1_31 _) rfl ⟨by decide, by decide⟩ ⟨by decide, by decide⟩ (Or.inl rfl) rfl (Nat.le_of_ble_eq_true rfl) (n_coin (q := 11) rfl (fun k => (gn_at (gn_R (q := 2) (k := 6) (v := some 10) gn11 (by decide)) _))) (fun r53 M53 z => ?_)
  obtain ⟨rfl, rfl⟩ := z
  show zV G (eX1_init (g_rmc 2 12 80)) (10, 68) 56 [(0, .ref 1), (1, .int (nI 7))] [.ref 11, .int (nI 7), .ref 2] (sh0.take 12, (up2 I 1 4 (nI 1)), J, (up2 (up2 (up2 (up2 (up2 (up2 (up2 (up2 (up2 R 1 0 (some 2)) 1 1 (some 3)) 2 0 (some 4)) 2 1 (some 5)) 2 2 (some 6)) 2 3 (some 7)) 2 4 (some 8)) 2 5 (some 9)) 2 6 (some 10))) _
  refine zV_aastore (q' := 11) 7 dX1_init_56 rfl rfl rfl rfl rfl (by decide) rfl (by decide) (by decide) ?_
  refine zV_iinc (y := (nI 8)) (lv' := [(0, .ref 1), (1, .int (nI 8))]) dX1_init_57 rfl 1 rfl (rfl) (by decide) rfl ?_
  refine zV_goto (tgt := 38) dX1_init_60 rfl ?_
  refine zV_iload_n dX1_init_38 rfl 1 rfl rfl ?_
  refine zV_bipush (v := (nI 10)) dX1_init_39 rfl rfl ?_
  refine zN_icmp_ge (tgt := 63) dX1_init_41 rfl rfl (by decide) (by decide) (fun z => absurd z (by decide)) (fun _ => ?_)
  refine zV_aload_n dX1_init_44 rfl 0 rfl rfl ?_
  refine zV_getr (q' := 2) 0 dX1_init_45 rfl fl_RX1_11 rfl (by decide) rfl rfl ?_
  refine zV_iload_n dX1_init_48 rfl 1 rfl rfl ?_
  refine zV_new (ci := 0) dX1_init_49 rfl ⟨tw32, tw34, tw3⟩ rfl (by decide) (gn_R (q := 2) (k := 7) (v := some 11) gn12 (by decide)) (by decide) ⟨by decide, by decide⟩ ?_
  have gn13 := gn_le (gn_R (q := 2) (k := 7) (v := some 11) gn12 (by decide)) (show 12 ≤ 13 by decide)
  show zV G (eX1_init (g_rmc 2 12 80)) (11, 74) 52 [(0, .ref 1), (1, .int (nI 8))] [.ref 12, .int (nI 8), .ref 2] (sh0.take 13, (up2 I 1 4 (nI 1)), J, (up2 (up2 (up2 (up2 (up2 (up2 (up2 (up2 (up2 (up2 R 1 0 (some 2)) 1 1 (some 3)) 2 0 (some 4)) 2 1 (some 5)) 2 2 (some 6)) 2 3 (some 7)) 2 4 (some 8)) 2 5 (some 9)) 2 6 (some 10)) 2 7 (some 11))) _
  refine zV_dup dX1_init_52 rfl rfl ?_
  refine zV_callIN (E' := eX0_init (g_rmv 1)) (av := []) (st := [.ref 12, .int (nI 8), .ref 2]) (b := 12) dX1_init_53 rfl (k_RX1_31 _) rfl ⟨by decide, by decide⟩ ⟨by decide, by decide⟩ (Or.inl rfl) rfl (Nat.le_of_ble_eq_true rfl) (n_coin (q := 12) rfl (fun k => (gn_at (gn_R (q := 2) (k := 7) (v := some 11) gn12 (by decide)) _))) (fun r53 M53 z => ?_)
  obtain ⟨rfl, rfl⟩ := z
  show zV G (eX1_init (g_rmc 2 12 80)) (11, 74) 56 [(0, .ref 1), (1, .int (nI 8))] [.ref 12, .int (nI 8), .ref 2] (sh0.take 13, (up2 I 1 4 (nI 1)), J, (up2 (up2 (up2 (up2 (up2 (up2 (up2 (up2 (up2 (up2 R 1 0 (some 2)) 1 1 (some 3)) 2 0 (some 4)) 2 1 (some 5)) 2 2 (some 6)) 2 3 (some 7)) 2 4 (some 8)) 2 5 (some 9)) 2 6 (some 10)) 2 7 (some 11))) _
  refine zV_aastore (q' := 12) 8 dX1_init_56 rfl rfl rfl rfl rfl (by decide) rfl (by decide) (by decide) ?_
  refine zV_iinc (y := (nI 9)) (lv' := [(0, .ref 1), (1, .int (nI 9))]) dX1_init_57 rfl 1 rfl (rfl) (by decide) rfl ?_
  refine zV_goto (tgt := 38) dX1_init_60 rfl ?_
  refine zV_iload_n dX1_init_38 rfl 1 rfl rfl ?_
  refine zV_bipush (v := (nI 10)) dX1_init_39 rfl rfl ?_
  refine zN_icmp_ge (tgt := 63) dX1_init_41 rfl rfl (by decide) (by decide) (fun z => absurd z (by decide)) (fun _ => ?_)
  refine zV_aload_n dX1_init_44 rfl 0 rfl rfl ?_
  refine zV_getr (q' := 2) 0 dX1_init_45 rfl fl_RX1_11 rfl (by decide) rfl rfl ?_
  refine zV_iload_n dX1_init_48 rfl 1 rfl rfl ?_
  refine zV_new (ci := 0) dX1_init_49 rfl ⟨tw32, tw34, tw3⟩ rfl (by decide) (gn_R (q := 2) (k := 8) (v := some 12) gn13 (by decide)) (by decide) ⟨by decide, by decide⟩ ?_
  have gn14 := gn_le (gn_R (q := 2) (k := 8) (v := some 12) gn13 (by decide)) (show 13 ≤ 14 by decide)
  show zV G (eX1_init (g_rmc 2 12 80)) (12, 80) 52 [(0, .ref 1), (1, .int (nI 9))] [.ref 13, .int (nI 9), .ref 2] (sh0.take 14, (up2 I 1 4 (nI 1)), J, (up2 (up2 (up2 (up2 (up2 (up2 (up2 (up2 (up2 (up2 (up2 R 1 0 (some 2)) 1 1 (some 3)) 2 0 (some 4)) 2 1 (some 5)) 2 2 (some 6)) 2 3 (some 7)) 2 4 (some 8)) 2 5 (some 9)) 2 6 (some 10)) 2 7 (some 11)) 2 8 (some 12))) _
  refine zV_dup dX1_init_52 rfl rfl ?_
  refine zV_callIN (E' := eX0_init (g_rmv 1)) (av := []) (st := [.ref 13, .int (nI 9), .ref 2]) (b := 13) dX1_init_53 rfl (k_RX1_31 _) rfl ⟨by decide, by decide⟩ ⟨by decide, by decide⟩ (Or.inl rfl) rfl (Nat.le_of_ble_eq_true rfl) (n_coin (q := 13) rfl (fun k => (gn_at (gn_R (q := 2) (k := 8) (v := some 12) gn13 (by decide)) _))) (fun r53 M53 z => ?_)
  obtain ⟨rfl, rfl⟩ := z
  show zV G (eX1_init (g_rmc 2 12 80)) (12, 80) 56 [(0, .ref 1), (1, .int (nI 9))] [.ref 13, .int (nI 9), .ref 2] (sh0.take 14, (up2 I 1 4 (nI 1)), J, (up2 (up2 (up2 (up2 (up2 (up2 (up2 (up2 (up2 (up2 (up2 R 1 0 (some 2)) 1 1 (some 3)) 2 0 (some 4)) 2 1 (some 5)) 2 2 (some 6)) 2 3 (some 7)) 2 4 (some 8)) 2 5 (some 9)) 2 6 (some 10)) 2 7 (some 11)) 2 8 (some 12))) _
  refine zV_aastore (q' := 13) 9 dX1_init_56 rfl rfl rfl rfl rfl (by decide) rfl (by decide) (by decide) ?_
  refine zV_iinc (y := (nI 10)) (lv' := [(0, .ref 1), (1, .int (nI 10))]) dX1_init_57 rfl 1 rfl (rfl) (by decide) rfl ?_
  refine zV_goto (tgt := 38) dX1_init_60 rfl ?_
  refine zV_iload_n dX1_init_38 rfl 1 rfl rfl ?_
  refine zV_bipush (v := (nI 10)) dX1_init_39 rfl rfl ?_
  refine zN_icmp_ge (tgt := 63) dX1_init_41 rfl rfl (by decide) (by decide) (fun _ => ?_) (fun z => absurd z (by decide))
  refine zV_aload_n dX1_init_63 rfl 0 rfl rfl ?_
  refine zV_getr (q' := 3) 1 dX1_init_64 rfl fl_RX1_17 rfl (by decide) rfl rfl ?_
  refine zV_iconst (v := (-1)) dX1_init_67 rfl rfl ?_
  refine zV_callS (E' := eJ7_fill_53178 (g_rmv 0)) (av := [.ref 3, .int (-1)]) (st := []) dX1_init_68 rfl (k_RX1_32 _) rfl ⟨by decide, by decide⟩ ⟨by decide, by decide⟩ (Or.inl rfl) rfl (Nat.le_of_ble_eq_true rfl) (n_fill (q := 3) rfl (x := (-1))) (fun r68 M68 z => ?_)
  obtain ⟨I68, rfl, rfl, hx68, hf68⟩ := z
  show zV G (eX1_init (g_rmc 2 12 80)) (12, 80) 71 [(0, .ref 1), (1, .int (nI 10))] [] (sh0.take 14, I68, J, (up2 (up2 (up2 (up2 (up2 (up2 (up2 (up2 (up2 (up2 (up2 (up2 R 1 0 (some 2)) 1 1 (some 3)) 2 0 (some 4)) 2 1 (some 5)) 2 2 (some 6)) 2 3 (some 7)) 2 4 (some 8)) 2 5 (some 9)) 2 6 (some 10)) 2 7 (some 11)) 2 8 (some 12)) 2 9 (some 13))) _
  exact zV_return dX1_init_71 rfl (⟨I68, rfl, rfl, by rw [hf68 1 (by decide), up2_same], fun k hk => by rw [hf68 1 (by decide), up2_nk hk], hx68, fun i h1 h2 => by rw [hf68 i h2]; funext k; exact up2_ni h1⟩)

set_option maxRecDepth 100000 in
theorem n_land14 {G : mG} {I : Nat → Nat → Int32} {J : Nat → Nat → Int64} {R : Nat → Nat → Option Nat} (hz : ∀ k, I 14 k = 0) (hn : g_new (sh0.take 15, I, J, R)) : zC G yX1_init (eX1_init (g_rmc 2 12 80)) [.ref 14] (sh0.take 15, I, J, R) (fun r M => ∃ I', r = none ∧ M = (sh0.take 27, I', J, RLd 14 R) ∧ I' 14 4 = nI 1 ∧ (∀ k, k ≠ 4 → I' 14 k = I 14 k) ∧ (∀ s, s < 10 → I' 16 s = -1) ∧ ∀ i, i ≠ 14 → i ≠ 16 → I' i = I i) := by
  refine zC_of (by decide +kernel) rfl (by decide) (Nat.le_of_ble_eq_true rfl) ?_
  show zV G (eX1_init (g_rmc 2 12 80)) (0, 0) 0 [(0, .ref 14)] [] (sh0.take 15, I, J, R) _
  refine zV_aload_n dX1_init_0 rfl 0 rfl rfl ?_
  refine zV_objInit dX1_init_1 rfl ko_RX1_3 (by decide) (by decide) ?_
  refine zV_aload_n dX1_init_4 rfl 0 rfl rfl ?_
  refine zV_bipush (v := (nI 10)) dX1_init_5 rfl rfl ?_
  refine zV_newq (t := 3) (N := 10) dX1_init_7 rfl tw32 (by decide) rfl (by decide) rfl (by decide) hn (by decide) ⟨by decide, by decide⟩ ?_
  have gn16 := gn_le hn (show 15 ≤ 16 by decide)
  show zV G (eX1_init (g_rmc 2 12 80)) (1, 10) 10 [(0, .ref 14)] [.ref 15, .ref 14] (sh0.take 16, I, J, R) _
  refine zV_putF (q' := 15) 0 dX1_init_10 rfl rfl fl_RX1_11 rfl (by decide) rfl (fun _ => rfl) (fun _ => rfl) ?_
  refine zV_aload_n dX1_init_13 rfl 0 rfl rfl ?_
  refine zV_bipush (v := (nI 10)) dX1_init_14 rfl rfl ?_
  refine zV_newa (t := 0) (N := 10) dX1_init_16 rfl tw73 rfl (by decide) rfl (by decide) (gn_R (q := 14) (k := 0) (v := some 15) gn16 (by decide)) (by decide) ⟨by decide, by decide⟩ ?_
  have gn17 := gn_le (gn_R (q := 14) (k := 0) (v := some 15) gn16 (by decide)) (show 16 ≤ 17 by decide)
  show zV G (eX1_init (g_rmc 2 12 80)) (2, 20) 18 [(0, .ref 14)] [.ref 16, .ref 14] (sh0.take 17, I, J, (up2 R 14 0 (some 15))) _
  refine zV_putF (q' := 16) 1 dX1_init_18 rfl rfl fl_RX1_17 rfl (by decide) rfl (fun _ => rfl) (fun _ => rfl) ?_
  refine zV_aload_n dX1_init_21 rfl 0 rfl rfl ?_
  refine zV_iconst (v := (nI 0)) dX1_init_22 rfl rfl ?_
  refine zV_puti 2 dX1_init_23 rfl fl_RX1_21 rfl (by decide) rfl rfl rfl ?_
  rw [up2_id (show I 14 2 = nI 0 from (hz _))]
  refine zV_aload_n dX1_init_26 rfl 0 rfl rfl ?_
  refine zV_iconst (v := (nI 0)) dX1_init_27 rfl rfl ?_
  refine zV_puti 3 dX1_init_28 rfl fl_RX1_25 rfl (by decide) rfl rfl rfl ?_
  rw [up2_id (show I 14 3 = nI 0 from (hz _))]
  refine zV_aload_n dX1_init_31 rfl 0 rfl rfl ?_
  refine zV_iconst (v := (nI 1)) dX1_init_32 rfl rfl ?_
  refine zV_puti 4 dX1_init_33 rfl fl_RX1_28 rfl (by decide) rfl rfl rfl ?_
  refine zV_iconst (v := (nI 0)) dX1_init_36 rfl rfl ?_
  refine zV_istore_n (lv' := [(0, .ref 14), (1, .int (nI 0))]) dX1_init_37 rfl rfl (by decide) rfl ?_
  refine zV_iload_n dX1_init_38 rfl 1 rfl rfl ?_
  refine zV_bipush (v := (nI 10)) dX1_init_39 rfl rfl ?_
  refine zN_icmp_ge (tgt := 63) dX1_init_41 rfl rfl (by decide) (by decide) (fun z => absurd z (by decide)) (fun _ => ?_)
  refine zV_aload_n dX1_init_44 rfl 0 rfl rfl ?_
  refine zV_getr (q' := 15) 0 dX1_init_45 rfl fl_RX1_11 rfl (by decide) rfl rfl ?_
  refine zV_iload_n dX1_init_48 rfl 1 rfl rfl ?_
  refine zV_new (ci := 0) dX1_init_49 rfl ⟨tw32, tw34, tw3⟩ rfl (by decide) (gn_I (q := 14) (k := 4) (v := (nI 1)) (gn_R (q := 14) (k := 1) (v := some 16) gn17 (by decide)) (by decide)) (by decide) ⟨by decide, by decide⟩ ?_
  have gn18 := gn_le (gn_I (q := 14) (k := 4) (v := (nI 1)) (gn_R (q := 14) (k := 1) (v := some 16) gn17 (by decide)) (by decide)) (show 17 ≤ 18 by decide)
  show zV G (eX1_init (g_rmc 2 12 80)) (3, 26) 52 [(0, .ref 14), (1, .int (nI 0))] [.ref 17, .int (nI 0), .ref 15] (sh0.take 18, (up2 I 14 4 (nI 1)), J, (up2 (up2 R 14 0 (some 15)) 14 1 (some 16))) _
  refine zV_dup dX1_init_52 rfl rfl ?_
  refine zV_callIN (E' := eX0_init (g_rmv 1)) (av := []) (st := [.ref 17, .int (nI 0), .ref 15]) (b := 17) dX1_init_53 rfl (k_RX1_31 _) rfl ⟨by decide, by decide⟩ ⟨by decide, by decide⟩ (Or.inl rfl) rfl (Nat.le_of_ble_eq_true rfl) (n_coin (q := 17) rfl (fun k => (gn_at (gn_I (q := 14) (k := 4) (v := (nI 1)) (gn_R (q := 14) (k := 1) (v := some 16) gn17 (by decide)) (by decide)) _))) (fun r53 M53 z => ?_)
  obtain ⟨rfl, rfl⟩ := z
  show zV G (eX1_init (g_rmc 2 12 80)) (3, 26) 56 [(0, .ref 14), (1, .int (nI 0))] [.ref 17, .int (nI 0), .ref 15] (sh0.take 18, (up2 I 14 4 (nI 1)), J, (up2 (up2 R 14 0 (some 15)) 14 1 (some 16))) _
  refine zV_aastore (q' := 17) 0 dX1_init_56 rfl rfl rfl rfl rfl (by decide) rfl (by decide) (by decide) ?_
  refine zV_iinc (y := (nI 1)) (lv' := [(0, .ref 14), (1, .int (nI 1))]) dX1_init_57 rfl 1 rfl (rfl) (by decide) rfl ?_
  refine zV_goto (tgt := 38) dX1_init_60 rfl ?_
  refine zV_iload_n dX1_init_38 rfl 1 rfl rfl ?_
  refine zV_bipush (v := (nI 10)) dX1_init_39 rfl rfl ?_
  refine zN_icmp_ge (tgt := 63) dX1_init_41 rfl rfl (by decide) (by decide) (fun z => absurd z (by decide)) (fun _ => ?_)
  refine zV_aload_n dX1_init_44 rfl 0 rfl rfl ?_
  refine zV_getr (q' := 15) 0 dX1_init_45 rfl fl_RX1_11 rfl (by decide) rfl rfl ?_
  refine zV_iload_n dX1_init_48 rfl 1 rfl rfl ?_
  refine zV_new (ci := 0) dX1_init_49 rfl ⟨tw32, tw34, tw3⟩ rfl (by decide) (gn_R (q := 15) (k := 0) (v := some 17) gn18 (by decide)) (by decide) ⟨by decide, by decide⟩ ?_
  have gn19 := gn_le (gn_R (q := 15) (k := 0) (v := some 17) gn18 (by decide)) (show 18 ≤ 19 by decide)
  show zV G (eX1_init (g_rmc 2 12 80)) (4, 32) 52 [(0, .ref 14), (1, .int (nI 1))] [.ref 18, .int (nI 1), .ref 15] (sh0.take 19, (up2 I 14 4 (nI 1)), J, (up2 (up2 (up2 R 14 0 (some 15)) 14 1 (some 16)) 15 0 (some 17))) _
  refine zV_dup dX1_init_52 rfl rfl ?_
  refine zV_callIN (E' := eX0_init (g_rmv 1)) (av := []) (st := [.ref 18, .int (nI 1), .ref 15]) (b := 18) dX1_init_53 rfl (k_RX1_31 _) rfl ⟨by decide, by decide⟩ ⟨by decide, by decide⟩ (Or.inl rfl) rfl (Nat.le_of_ble_eq_true rfl) (n_coin (q := 18) rfl (fun k => (gn_at (gn_R (q := 15) (k := 0) (v := some 17) gn18 (by decide)) _))) (fun r53 M53 z => ?_)
  obtain ⟨rfl, rfl⟩ := z
  show zV G (eX1_init (g_rmc 2 12 80)) (4, 32) 56 [(0, .ref 14), (1, .int (nI 1))] [.ref 18, .int (nI 1), .ref 15] (sh0.take 19, (up2 I 14 4 (nI 1)), J, (up2 (up2 (up2 R 14 0 (some 15)) 14 1 (some 16)) 15 0 (some 17))) _
  refine zV_aastore (q' := 18) 1 dX1_init_56 rfl rfl rfl rfl rfl (by decide) rfl (by decide) (by decide) ?_
  refine zV_iinc (y := (nI 2)) (lv' := [(0, .ref 14), (1, .int (nI 2))]) dX1_init_57 rfl 1 rfl (rfl) (by decide) rfl ?_
  refine zV_goto (tgt := 38) dX1_init_60 rfl ?_
  refine zV_iload_n dX1_init_38 rfl 1 rfl rfl ?_
  refine zV_bipush (v := (nI 10)) dX1_init_39 rfl rfl ?_
  refine zN_icmp_ge (tgt := 63) dX1_init_41 rfl rfl (by decide) (by decide) (fun z => absurd z (by decide)) (fun _ => ?_)
  refine zV_aload_n dX1_init_44 rfl 0 rfl rfl ?_
  refine zV_getr (q' := 15) 0 dX1_init_45 rfl fl_RX1_11 rfl (by decide) rfl rfl ?_
  refine zV_iload_n dX1_init_48 rfl 1 rfl rfl ?_
  refine zV_new (ci := 0) dX1_init_49 rfl ⟨tw32, tw34, tw3⟩ rfl (by decide) (gn_R (q := 15) (k := 1) (v := some 18) gn19 (by decide)) (by decide) ⟨by decide, by decide⟩ ?_
  have gn20 := gn_le (gn_R (q := 15) (k := 1) (v := some 18) gn19 (by decide)) (show 19 ≤ 20 by decide)
  show zV G (eX1_init (g_rmc 2 12 80)) (5, 38) 52 [(0, .ref 14), (1, .int (nI 2))] [.ref 19, .int (nI 2), .ref 15] (sh0.take 20, (up2 I 14 4 (nI 1)), J, (up2 (up2 (up2 (up2 R 14 0 (some 15)) 14 1 (some 16)) 15 0 (some 17)) 15 1 (some 18))) _
  refine zV_dup dX1_init_52 rfl rfl ?_
  refine zV_callIN (E' := eX0_init (g_rmv 1)) (av := []) (st := [.ref 19, .int (nI 2), .ref 15]) (b := 19) dX1_init_53 rfl (k_RX1_31 _) rfl ⟨by decide, by decide⟩ ⟨by decide, by decide⟩ (Or.inl rfl) rfl (Nat.le_of_ble_eq_true rfl) (n_coin (q := 19) rfl (fun k => (gn_at (gn_R (q := 15) (k := 1) (v := some 18) gn19 (by decide)) _))) (fun r53 M53 z => ?_)
  obtain ⟨rfl, rfl⟩ := z
  show zV G (eX1_init (g_rmc 2 12 80)) (5, 38) 56 [(0, .ref 14), (1, .int (nI 2))] [.ref 19, .int (nI 2), .ref 15] (sh0.take 20, (up2 I 14 4 (nI 1)), J, (up2 (up2 (up2 (up2 R 14 0 (some 15)) 14 1 (some 16)) 15 0 (some 17)) 15 1 (some 18))) _
  refine zV_aastore (q' := 19) 2 dX1_init_56 rfl rfl rfl rfl rfl (by decide) rfl (by decide) (by decide) ?_
  refine zV_iinc (y := (nI 3)) (lv' := [(0, .ref 14), (1, .int (nI 3))]) dX1_init_57 rfl 1 rfl (rfl) (by decide) rfl ?_
  refine zV_goto (tgt := 38) dX1_init_60 rfl ?_
  refine zV_iload_n dX1_init_38 rfl 1 rfl rfl ?_
  refine zV_bipush (v := (nI 10)) dX1_init_39 rfl rfl ?_
  refine zN_icmp_ge (tgt := 63) dX1_init_41 rfl rfl (by decide) (by decide) (fun z => absurd z (by decide)) (fun _ => ?_)
  refine zV_aload_n dX1_init_44 rfl 0 rfl rfl ?_
  refine zV_getr (q' := 15) 0 dX1_init_45 rfl fl_RX1_11 rfl (by decide) rfl rfl ?_
  refine zV_iload_n dX1_init_48 rfl 1 rfl rfl ?_
  refine zV_new (ci := 0) dX1_init_49 rfl ⟨tw32, tw34, tw3⟩ rfl (by decide) (gn_R (q := 15) (k := 2) (v := some 19) gn20 (by decide)) (by decide) ⟨by decide, by decide⟩ ?_
  have gn21 := gn_le (gn_R (q := 15) (k := 2) (v := some 19) gn20 (by decide)) (show 20 ≤ 21 by decide)
  show zV G (eX1_init (g_rmc 2 12 80)) (6, 44) 52 [(0, .ref 14), (1, .int (nI 3))] [.ref 20, .int (nI 3), .ref 15] (sh0.take 21, (up2 I 14 4 (nI 1)), J, (up2 (up2 (up2 (up2 (up2 R 14 0 (some 15)) 14 1 (some 16)) 15 0 (some 17)) 15 1 (some 18)) 15 2 (some 19))) _
  refine zV_dup dX1_init_52 rfl rfl ?_
  refine zV_callIN (E' := eX0_init (g_rmv 1)) (av := []) (st := [.ref 20, .int (nI 3), .ref 15]) (b := 20) dX1_init_53 rfl (k_RX1_31 _) rfl ⟨by decide, by decide⟩ ⟨by decide, by decide⟩ (Or.inl rfl) rfl (Nat.le_of_ble_eq_true rfl) (n_coin (q := 20) rfl (fun k => (gn_at (gn_R (q := 15) (k := 2) (v := some 19) gn20 (by decide)) _))) (fun r53 M53 z => ?_)
  obtain ⟨rfl, rfl⟩ := z
  show zV G (eX1_init (g_rmc 2 12 80)) (6, 44) 56 [(0, .ref 14), (1, .int (nI 3))] [.ref 20, .int (nI 3), .ref 15] (sh0.take 21, (up2 I 14 4 (nI 1)), J, (up2 (up2 (up2 (up2 (up2 R 14 0 (some 15)) 14 1 (some 16)) 15 0 (some 17)) 15 1 (some 18)) 15 2 (some 19))) _
  refine zV_aastore (q' := 20) 3 dX1_init_56 rfl rfl rfl rfl rfl (by decide) rfl (by decide) (by decide) ?_
  refine zV_iinc (y := (nI 4)) (lv' := [(0, .ref 14), (1, .int (nI 4))]) dX1_init_57 rfl 1 rfl (rfl) (by decide) rfl ?_
  refine zV_goto (tgt := 38) dX1_init_60 rfl ?_
  refine zV_iload_n dX1_init_38 rfl 1 rfl rfl ?_
  refine zV_bipush (v := (nI 10)) dX1_init_39 rfl rfl ?_
  refine zN_icmp_ge (tgt := 63) dX1_init_41 rfl rfl (by decide) (by decide) (fun z => absurd z (by decide)) (fun _ => ?_)
  refine zV_aload_n dX1_init_44 rfl 0 rfl rfl ?_
  refine zV_getr (q' := 15) 0 dX1_init_45 rfl fl_RX1_11 rfl (by decide) rfl rfl ?_
  refine zV_iload_n dX1_init_48 rfl 1 rfl rfl ?_
  refine zV_new (ci := 0) dX1_init_49 rfl ⟨tw32, tw34, tw3⟩ rfl (by decide) (gn_R (q := 15) (k := 3) (v := some 20) gn21 (by decide)) (by decide) ⟨by decide, by decide⟩ ?_
  have gn22 := gn_le (gn_R (q := 15) (k := 3) (v := some 20) gn21 (by decide)) (show 21 ≤ 22 by decide)
  show zV G (eX1_init (g_rmc 2 12 80)) (7, 50) 52 [(0, .ref 14), (1, .int (nI 4))] [.ref 21, .int (nI 4), .ref 15] (sh0.take 22, (up2 I 14 4 (nI 1)), J, (up2 (up2 (up2 (up2 (up2 (up2 R 14 0 (some 15)) 14 1 (some 16)) 15 0 (some 17)) 15 1 (some 18)) 15 2 (some 19)) 15 3 (some 20))) _
  refine zV_dup dX1_init_52 rfl rfl ?_
  refine zV_callIN (E' := eX0_init (g_rmv 1)) (av := []) (st := [.ref 21, .int (nI 4), .ref 15]) (b := 21) dX1_init_53 rfl (k_RX1_31 _) rfl ⟨by decide, by decide⟩ ⟨by decide, by decide⟩ (Or.inl rfl) rfl (Nat.le_of_ble_eq_true rfl) (n_coin (q := 21) rfl (fun k => (gn_at (gn_R (q := 15) (k := 3) (v := some 20) gn21 (by decide)) _))) (fun r53 M53 z => ?_)
  obtain ⟨rfl, rfl⟩ := z
  show zV G (eX1_init (g_rmc 2 12 80)) (7, 50) 56 [(0, .ref 14), (1, .int (nI 4))] [.ref 21, .int (nI 4), .ref 15] (sh0.take 22, (up2 I 14 4 (nI 1)), J, (up2 (up2 (up2 (up2 (up2 (up2 R 14 0 (some 15)) 14 1 (some 16)) 15 0 (some 17)) 15 1 (some 18)) 15 2 (some 19)) 15 3 (some 20))) _
  refine zV_aastore (q' := 21) 4 dX1_init_56 rfl rfl rfl rfl rfl (by decide) rfl (by decide) (by decide) ?_
  refine zV_iinc (y := (nI 5)) (lv' := [(0, .ref 14), (1, .int (nI 5))]) dX1_init_57 rfl 1 rfl (rfl) (by decide) rfl ?_
  refine zV_goto (tgt := 38) dX1_init_60 rfl ?_
  refine zV_iload_n dX1_init_38 rfl 1 rfl rfl ?_
  refine zV_bipush (v := (nI 10)) dX1_init_39 rfl rfl ?_
  refine zN_icmp_ge (tgt := 63) dX1_init_41 rfl rfl (by decide) (by decide) (fun z => absurd z (by decide)) (fun _ => ?_)
  refine zV_aload_n dX1_init_44 rfl 0 rfl rfl ?_
  refine zV_getr (q' := 15) 0 dX1_init_45 rfl fl_RX1_11 rfl (by decide) rfl rfl ?_
  refine zV_iload_n dX1_init_48 rfl 1 rfl rfl ?_
  refine zV_new (ci := 0) dX1_init_49 rfl ⟨tw32, tw34, tw3⟩ rfl (by decide) (gn_R (q := 15) (k := 4) (v := some 21) gn22 (by decide)) (by decide) ⟨by decide, by decide⟩ ?_
  have gn23 := gn_le (gn_R (q := 15) (k := 4) (v := some 21) gn22 (by decide)) (show 22 ≤ 23 by decide)
  show zV G (eX1_init (g_rmc 2 12 80)) (8, 56) 52 [(0, .ref 14), (1, .int (nI 5))] [.ref 22, .int (nI 5), .ref 15] (sh0.take 23, (up2 I 14 4 (nI 1)), J, (up2 (up2 (up2 (up2 (up2 (up2 (up2 R 14 0 (some 15)) 14 1 (some 16)) 15 0 (some 17)) 15 1 (some 18)) 15 2 (some 19)) 15 3 (some 20)) 15 4 (some 21))) _
  refine zV_dup dX1_init_52 rfl rfl ?_
  refine zV_callIN (E' := eX0_init (g_rmv 1)) (av := []) (st := [.ref 22, .int (nI 5), .ref 15]) (b := 22) dX1_init_53 rfl (k_RX1_31 _) rfl ⟨by decide, by decide⟩ ⟨by decide, by decide⟩ (Or.inl rfl) rfl (Nat.le_of_ble_eq_true rfl) (n_coin (q := 22) rfl (fun k => (gn_at (gn_R (q := 15) (k := 4) (v := some 21) gn22 (by decide)) _))) (fun r53 M53 z => ?_)
  obtain ⟨rfl, rfl⟩ := z
  show zV G (eX1_init (g_rmc 2 12 80)) (8, 56) 56 [(0, .ref 14), (1, .int (nI 5))] [.ref 22, .int (nI 5), .ref 15] (sh0.take 23, (up2 I 14 4 (nI 1)), J, (up2 (up2 (up2 (up2 (up2 (up2 (up2 R 14 0 (some 15)) 14 1 (some 16)) 15 0 (some 17)) 15 1 (some 18)) 15 2 (some 19)) 15 3 (some 20)) 15 4 (some 21))) _
  refine zV_aastore (q' := 22) 5 dX1_init_56 rfl rfl rfl rfl rfl (by decide) rfl (by decide) (by decide) ?_
  refine zV_iinc (y := (nI 6)) (lv' := [(0, .ref 14), (1, .int (nI 6))]) dX1_init_57 rfl 1 rfl (rfl) (by decide) rfl ?_
  refine zV_goto (tgt := 38) dX1_init_60 rfl ?_
  refine zV_iload_n dX1_init_38 rfl 1 rfl rfl ?_
  refine zV_bipush (v := (nI 10)) dX1_init_39 rfl rfl ?_
  refine zN_icmp_ge (tgt := 63) dX1_init_41 rfl rfl (by decide) (by decide) (fun z => absurd z (by decide)) (fun _ => ?_)
  refine zV_aload_n dX1_init_44 rfl 0 rfl rfl ?_
  refine zV_getr (q' := 15) 0 dX1_init_45 rfl fl_RX1_11 rfl (by decide) rfl rfl ?_
  refine zV_iload_n dX1_init_48 rfl 1 rfl rfl ?_
  refine zV_new (ci := 0) dX1_init_49 rfl ⟨tw32, tw34, tw3⟩ rfl (by decide) (gn_R (q := 15) (k := 5) (v := some 22) gn23 (by decide)) (by decide) ⟨by decide, by decide⟩ ?_
  have gn24 := gn_le (gn_R (q := 15) (k := 5) (v := some 22) gn23 (by decide)) (show 23 ≤ 24 by decide)
  show zV G (eX1_init (g_rmc 2 12 80)) (9, 62) 52 [(0, .ref 14), (1, .int (nI 6))] [.ref 23, .int (nI 6), .ref 15] (sh0.take 24, (up2 I 14 4 (nI 1)), J, (up2 (up2 (up2 (up2 (up2 (up2 (up2 (up2 R 14 0 (some 15)) 14 1 (some 16)) 15 0 (some 17)) 15 1 (some 18)) 15 2 (some 19)) 15 3 (some 20)) 15 4 (some 21)) 15 5 (some 22))) _
  refine zV_dup dX1_init_52 rfl rfl ?_
  refine zV_callIN (E' := eX0_init (g_rmv 1)) (av := []) (st := [.ref 23, .int (nI 6), .ref 15]) (b := 23) dX1_init_53 rfl (k_RX1_31 _) rfl ⟨by decide, by decide⟩ ⟨by decide, by decide⟩ (Or.inl rfl) rfl (Nat.le_of_ble_eq_true rfl) (n_coin (q := 23) rfl (fun k => (gn_at (gn_R (q := 15) (k := 5) (v := some 22) gn23 (by decide)) _))) (fun r53 M53 z => ?_)
  obtain ⟨rfl, rfl⟩ := z
  show zV G (eX1_init (g_rmc 2 12 80)) (9, 62) 56 [(0, .ref 14), (1, .int (nI 6))] [.ref 23, .int (nI 6), .ref 15] (sh0.take 24, (up2 I 14 4 (nI 1)), J, (up2 (up2 (up2 (up2 (up2 (up2 (up2 (up2 R 14 0 (some 15)) 14 1 (some 16)) 15 0 (some 17)) 15 1 (some 18)) 15 2 (some 19)) 15 3 (some 20)) 15 4 (some 21)) 15 5 (some 22))) _
  refine zV_aastore (q' := 23) 6 dX1_init_56 rfl rfl rfl rfl rfl (by decide) rfl (by decide) (by decide) ?_
  refine zV_iinc (y := (nI 7)) (lv' := [(0, .ref 14), (1, .int (nI 7))]) dX1_init_57 rfl 1 rfl (rfl) (by decide) rfl ?_
  refine zV_goto (tgt := 38) dX1_init_60 rfl ?_
  refine zV_iload_n dX1_init_38 rfl 1 rfl rfl ?_
  refine zV_bipush (v := (nI 10)) dX1_init_39 rfl rfl ?_
  refine zN_icmp_ge (tgt := 63) dX1_init_41 rfl rfl (by decide) (by decide) (fun z => absurd z (by decide)) (fun _ => ?_)
  refine zV_aload_n dX1_init_44 rfl 0 rfl rfl ?_
  refine zV_getr (q' := 15) 0 dX1_init_45 rfl fl_RX1_11 rfl (by decide) rfl rfl ?_
  refine zV_iload_n dX1_init_48 rfl 1 rfl rfl ?_
  refine zV_new (ci := 0) dX1_init_49 rfl ⟨tw32, tw34, tw3⟩ rfl (by decide) (gn_R (q := 15) (k := 6) (v := some 23) gn24 (by decide)) (by decide) ⟨by decide, by decide⟩ ?_
  have gn25 := gn_le (gn_R (q := 15) (k := 6) (v := some 23) gn24 (by decide)) (show 24 ≤ 25 by decide)
  show zV G (eX1_init (g_rmc 2 12 80)) (10, 68) 52 [(0, .ref 14), (1, .int (nI 7))] [.ref 24, .int (nI 7), .ref 15] (sh0.take 25, (up2 I 14 4 (nI 1)), J, (up2 (up2 (up2 (up2 (up2 (up2 (up2 (up2 (up2 R 14 0 (some 15)) 14 1 (some 16)) 15 0 (some 17)) 15 1 (some 18)) 15 2 (some 19)) 15 3 (some 20)) 15 4 (some 21)) 15 5 (some 22)) 15 6 (some 23))) _
  refine zV_dup dX1_init_52 rfl rfl ?_
  refine zV_callIN (E' := eX0_init (g_rmv 1)) (av := []) (st := [.ref 24, .int (nI 7), .ref 15]) (b := 24) dX1_init_53 rfl (k_RX1_31 _) rfl ⟨by decide, by decide⟩ ⟨by decide, by decide⟩ (Or.inl rfl) rfl (Nat.le_of_ble_eq_true rfl) (n_coin (q := 24) rfl (fun k => (gn_at (gn_R (q := 15) (k := 6) (v := some 23) gn24 (by decide)) _))) (fun r53 M53 z => ?_)
  obtain ⟨rfl, rfl⟩ := z
  show zV G (eX1_init (g_rmc 2 12 80)) (10, 68) 56 [(0, .ref 14), (1, .int (nI 7))] [.ref 24, .int (nI 7), .ref 15] (sh0.take 25, (up2 I 14 4 (nI 1)), J, (up2 (up2 (up2 (up2 (up2 (up2 (up2 (up2 (up2 R 14 0 (some 15)) 14 1 (some 16)) 15 0 (some 17)) 15 1 (some 18)) 15 2 (some 19)) 15 3 (some 20)) 15 4 (some 21)) 15 5 (some 22)) 15 6 (some 23))) _
  refine zV_aastore (q' := 24) 7 dX1_init_56 rfl rfl rfl rfl rfl (by decide) rfl (by decide) (by decide) ?_
  refine zV_iinc (y := (nI 8)) (lv' := [(0, .ref 14), (1, .int (nI 8))]) dX1_init_57 rfl 1 rfl (rfl) (by decide) rfl ?_
  refine zV_goto (tgt := 38) dX1_init_60 rfl ?_
  refine zV_iload_n dX1_init_38 rfl 1 rfl rfl ?_
  refine zV_bipush (v := (nI 10)) dX1_init_39 rfl rfl ?_
  refine zN_icmp_ge (tgt := 63) dX1_init_41 rfl rfl (by decide) (by decide) (fun z => absurd z (by decide)) (fun _ => ?_)
  refine zV_aload_n dX1_init_44 rfl 0 rfl rfl ?_
  refine zV_getr (q' := 15) 0 dX1_init_45 rfl fl_RX1_11 rfl (by decide) rfl rfl ?_
  refine zV_iload_n dX1_init_48 rfl 1 rfl rfl ?_
  refine zV_new (ci := 0) dX1_init_49 rfl ⟨tw32, tw34, tw3⟩ rfl (by decide) (gn_R (q := 15) (k := 7) (v := some 24) gn25 (by decide)) (by decide) ⟨by decide, by decide⟩ ?_
  have gn26 := gn_le (gn_R (q := 15) (k := 7) (v := some 24) gn25 (by decide)) (show 25 ≤ 26 by decide)
  show zV G (eX1_init (g_rmc 2 12 80)) (11, 74) 52 [(0, .ref 14), (1, .int (nI 8))] [.ref 25, .int (nI 8), .ref 15] (sh0.take 26, (up2 I 14 4 (nI 1)), J, (up2 (up2 (up2 (up2 (up2 (up2 (up2 (up2 (up2 (up2 R 14 0 (some 15)) 14 1 (some 16)) 15 0 (some 17)) 15 1 (some 18)) 15 2 (some 19)) 15 3 (some 20)) 15 4 (some 21)) 15 5 (some 22)) 15 6 (some 23)) 15 7 (some 24))) _
  refine zV_dup dX1_init_52 rfl rfl ?_
  refine zV_callIN (E' := eX0_init (g_rmv 1)) (av := []) (st := [.ref 25, .int (nI 8), .ref 15]) (b := 25) dX1_init_53 rfl (k_RX1_31 _) rfl ⟨by decide, by decide⟩ ⟨by decide, by decide⟩ (Or.inl rfl) rfl (Nat.le_of_ble_eq_true rfl) (n_coin (q := 25) rfl (fun k => (gn_at (gn_R (q := 15) (k := 7) (v := some 24) gn25 (by decide)) _))) (fun r53 M53 z => ?_)
  obtain ⟨rfl, rfl⟩ := z
  show zV G (eX1_init (g_rmc 2 12 80)) (11, 74) 56 [(0, .ref 14), (1, .int (nI 8))] [.ref 25, .int (nI 8), .ref 15] (sh0.take 26, (up2 I 14 4 (nI 1)), J, (up2 (up2 (up2 (up2 (up2 (up2 (up2 (up2 (up2 (up2 R 14 0 (some 15)) 14 1 (some 16)) 15 0 (some 17)) 15 1 (some 18)) 15 2 (some 19)) 15 3 (some 20)) 15 4 (some 21)) 15 5 (some 22)) 15 6 (some 23)) 15 7 (some 24))) _
  refine zV_aastore (q' := 25) 8 dX1_init_56 rfl rfl rfl rfl rfl (by decide) rfl (by decide) (by decide) ?_
  refine zV_iinc (y := (nI 9)) (lv' := [(0, .ref 14), (1, .int (nI 9))]) dX1_init_57 rfl 1 rfl (rfl) (by decide) rfl ?_
  refine zV_goto (tgt := 38) dX1_init_60 rfl ?_
  refine zV_iload_n dX1_init_38 rfl 1 rfl rfl ?_
  refine zV_bipush (v := (nI 10)) dX1_init_39 rfl rfl ?_
  refine zN_icmp_ge (tgt := 63) dX1_init_41 rfl rfl (by decide) (by decide) (fun z => absurd z (by decide)) (fun _ => ?_)
  refine zV_aload_n dX1_init_44 rfl 0 rfl rfl ?_
  refine zV_getr (q' := 15) 0 dX1_init_45 rfl fl_RX1_11 rfl (by decide) rfl rfl ?_
  refine zV_iload_n dX1_init_48 rfl 1 rfl rfl ?_
  refine zV_new (ci := 0) dX1_init_49 rfl ⟨tw32, tw34, tw3⟩ rfl (by decide) (gn_R (q := 15) (k := 8) (v := some 25) gn26 (by decide)) (by decide) ⟨by decide, by decide⟩ ?_
  have gn27 := gn_le (gn_R (q := 15) (k := 8) (v := some 25) gn26 (by decide)) (show 26 ≤ 27 by decide)
  show zV G (eX1_init (g_rmc 2 12 80)) (12, 80) 52 [(0, .ref 14), (1, .int (nI 9))] [.ref 26, .int (nI 9), .ref 15] (sh0.take 27, (up2 I 14 4 (nI 1)), J, (up2 (up2 (up2 (up2 (up2 (up2 (up2 (up2 (up2 (up2 (up2 R 14 0 (some 15)) 14 1 (some 16)) 15 0 (some 17)) 15 1 (some 18)) 15 2 (some 19)) 15 3 (some 20)) 15 4 (some 21)) 15 5 (some 22)) 15 6 (some 23)) 15 7 (some 24)) 15 8 (some 25))) _
  refine zV_dup dX1_init_52 rfl rfl ?_
  refine zV_callIN (E' := eX0_init (g_rmv 1)) (av := []) (st := [.ref 26, .int (nI 9), .ref 15]) (b := 26) dX1_init_53 rfl (k_RX1_31 _) rfl ⟨by decide, by decide⟩ ⟨by decide, by decide⟩ (Or.inl rfl) rfl (Nat.le_of_ble_eq_true rfl) (n_coin (q := 26) rfl (fun k => (gn_at (gn_R (q := 15) (k := 8) (v := some 25) gn26 (by decide)) _))) (fun r53 M53 z => ?_)
  obtain ⟨rfl, rfl⟩ := z
  show zV G (eX1_init (g_rmc 2 12 80)) (12, 80) 56 [(0, .ref 14), (1, .int (nI 9))] [.ref 26, .int (nI 9), .ref 15] (sh0.take 27, (up2 I 14 4 (nI 1)), J, (up2 (up2 (up2 (up2 (up2 (up2 (up2 (up2 (up2 (up2 (up2 R 14 0 (some 15)) 14 1 (some 16)) 15 0 (some 17)) 15 1 (some 18)) 15 2 (some 19)) 15 3 (some 20)) 15 4 (some 21)) 15 5 (some 22)) 15 6 (some 23)) 15 7 (some 24)) 15 8 (some 25))) _
  refine zV_aastore (q' := 26) 9 dX1_init_56 rfl rfl rfl rfl rfl (by decide) rfl (by decide) (by decide) ?_
  refine zV_iinc (y := (nI 10)) (lv' := [(0, .ref 14), (1, .int (nI 10))]) dX1_init_57 rfl 1 rfl (rfl) (by decide) rfl ?_
  refine zV_goto (tgt := 38) dX1_init_60 rfl ?_
  refine zV_iload_n dX1_init_38 rfl 1 rfl rfl ?_
  refine zV_bipush (v := (nI 10)) dX1_init_39 rfl rfl ?_
  refine zN_icmp_ge (tgt := 63) dX1_init_41 rfl rfl (by decide) (by decide) (fun _ => ?_) (fun z => absurd z (by decide))
  refine zV_aload_n dX1_init_63 rfl 0 rfl rfl ?_
  refine zV_getr (q' := 16) 1 dX1_init_64 rfl fl_RX1_17 rfl (by decide) rfl rfl ?_
  refine zV_iconst (v := (-1)) dX1_init_67 rfl rfl ?_
  refine zV_callS (E' := eJ7_fill_53178 (g_rmv 0)) (av := [.ref 16, .int (-1)]) (st := []) dX1_init_68 rfl (k_RX1_32 _) rfl ⟨by decide, by decide⟩ ⟨by decide, by decide⟩ (Or.inl rfl) rfl (Nat.le_of_ble_eq_true rfl) (n_fill (q := 16) rfl (x := (-1))) (fun r68 M68 z => ?_)
  obtain ⟨I68, rfl, rfl, hx68, hf68⟩ := z
  show zV G (eX1_init (g_rmc 2 12 80)) (12, 80) 71 [(0, .ref 14), (1, .int (nI 10))] [] (sh0.take 27, I68, J, (up2 (up2 (up2 (up2 (up2 (up2 (up2 (up2 (up2 (up2 (up2 (up2 R 14 0 (some 15)) 14 1 (some 16)) 15 0 (some 17)) 15 1 (some 18)) 15 2 (some 19)) 15 3 (some 20)) 15 4 (some 21)) 15 5 (some 22)) 15 6 (some 23)) 15 7 (some 24)) 15 8 (some 25)) 15 9 (some 26))) _
  exact zV_return dX1_init_71 rfl (⟨I68, rfl, rfl, by rw [hf68 14 (by decide), up2_same], fun k hk => by rw [hf68 14 (by decide), up2_nk hk], hx68, fun i h1 h2 => by rw [hf68 i h2]; funext k; exact up2_ni h1⟩)

set_option maxRecDepth 100000 in
theorem n_land27 {G : mG} {I : Nat → Nat → Int32} {J : Nat → Nat → Int64} {R : Nat → Nat → Option Nat} (hz : ∀ k, I 27 k = 0) (hn : g_new (sh0.take 28, I, J, R)) : zC G yX1_init (eX1_init (g_rmc 2 12 80)) [.ref 27] (sh0.take 28, I, J, R) (fun r M => ∃ I', r = none ∧ M = (sh0.take 40, I', J, RLd 27 R) ∧ I' 27 4 = nI 1 ∧ (∀ k, k ≠ 4 → I' 27 k = I 27 k) ∧ (∀ s, s < 10 → I' 29 s = -1) ∧ ∀ i, i ≠ 27 → i ≠ 29 → I' i = I i) := by
  refine zC_of (by decide +kernel) rfl (by decide) (Nat.le_of_ble_eq_true rfl) ?_
  show zV G (eX1_init (g_rmc 2 12 80)) (0, 0) 0 [(0, .ref 27)] [] (sh0.take 28, I, J, R) _
  refine zV_aload_n dX1_init_0 rfl 0 rfl rfl ?_
  refine zV_objInit dX1_init_1 rfl ko_RX1_3 (by decide) (by decide) ?_
  refine zV_aload_n dX1_init_4 rfl 0 rfl rfl ?_
  refine zV_bipush (v := (nI 10)) dX1_init_5 rfl rfl ?_
  refine zV_newq (t := 3) (N := 10) dX1_init_7 rfl tw32 (by decide) rfl (by decide) rfl (by decide) hn (by decide) ⟨by decide, by decide⟩ ?_
  have gn29 := gn_le hn (show 28 ≤ 29 by decide)
  show zV G (eX1_init (g_rmc 2 12 80)) (1, 10) 10 [(0, .ref 27)] [.ref 28, .ref 27] (sh0.take 29, I, J, R) _
  refine zV_putF (q' := 28) 0 dX1_init_10 rfl rfl fl_RX1_11 rfl (by decide) rfl (fun _ => rfl) (fun _ => rfl) ?_
  refine zV_aload_n dX1_init_13 rfl 0 rfl rfl ?_
  refine zV_bipush (v := (nI 10)) dX1_init_14 rfl rfl ?_
  refine zV_newa (t := 0) (N := 10) dX1_init_16 rfl tw73 rfl (by decide) rfl (by decide) (gn_R (q := 27) (k := 0) (v := some 28) gn29 (by decide)) (by decide) ⟨by decide, by decide⟩ ?_
  have gn30 := gn_le (gn_R (q := 27) (k := 0) (v := some 28) gn29 (by decide)) (show 29 ≤ 30 by decide)
  show zV G (eX1_init (g_rmc 2 12 80)) (2, 20) 18 [(0, .ref 27)] [.ref 29, .ref 27] (sh0.take 30, I, J, (up2 R 27 0 (some 28))) _
  refine zV_putF (q' := 29) 1 dX1_init_18 rfl rfl fl_RX1_17 rfl (by decide) rfl (fun _ => rfl) (fun _ => rfl) ?_
  refine zV_aload_n dX1_init_21 rfl 0 rfl rfl ?_
  refine zV_iconst (v := (nI 0)) dX1_init_22 rfl rfl ?_
  refine zV_puti 2 dX1_init_23 rfl fl_RX1_21 rfl (by decide) rfl rfl rfl ?_
  rw [up2_id (show I 27 2 = nI 0 from (hz _))]
  refine zV_aload_n dX1_init_26 rfl 0 rfl rfl ?_
  refine zV_iconst (v := (nI 0)) dX1_init_27 rfl rfl ?_
  refine zV_puti 3 dX1_init_28 rfl fl_RX1_25 rfl (by decide) rfl rfl rfl ?_
  rw [up2_id (show I 27 3 = nI 0 from (hz _))]
  refine zV_aload_n dX1_init_31 rfl 0 rfl rfl ?_
  refine zV_iconst (v := (nI 1)) dX1_init_32 rfl rfl ?_
  refine zV_puti 4 dX1_init_33 rfl fl_RX1_28 rfl (by decide) rfl rfl rfl ?_
  refine zV_iconst (v := (nI 0)) dX1_init_36 rfl rfl ?_
  refine zV_istore_n (lv' := [(0, .ref 27), (1, .int (nI 0))]) dX1_init_37 rfl rfl (by decide) rfl ?_
  refine zV_iload_n dX1_init_38 rfl 1 rfl rfl ?_
  refine zV_bipush (v := (nI 10)) dX1_init_39 rfl rfl ?_
  refine zN_icmp_ge (tgt := 63) dX1_init_41 rfl rfl (by decide) (by decide) (fun z => absurd z (by decide)) (fun _ => ?_)
  refine zV_aload_n dX1_init_44 rfl 0 rfl rfl ?_
  refine zV_getr (q' := 28) 0 dX1_init_45 rfl fl_RX1_11 rfl (by decide) rfl rfl ?_
  refine zV_iload_n dX1_init_48 rfl 1 rfl rfl ?_
  refine zV_new (ci := 0) dX1_init_49 rfl ⟨tw32, tw34, tw3⟩ rfl (by decide) (gn_I (q := 27) (k := 4) (v := (nI 1)) (gn_R (q := 27) (k := 1) (v := some 29) gn30 (by decide)) (by decide)) (by decide) ⟨by decide, by decide⟩ ?_
  have gn31 := gn_le (gn_I (q := 27) (k := 4) (v := (nI 1)) (gn_R (q := 27) (k := 1) (v := some 29) gn30 (by decide)) (by decide)) (show 30 ≤ 31 by decide)
  show zV G (eX1_init (g_rmc 2 12 80)) (3, 26) 52 [(0, .ref 27), (1, .int (nI 0))] [.ref 30, .int (nI 0), .ref 28] (sh0.take 31, (up2 I 27 4 (nI 1)), J, (up2 (up2 R 27 0 (some 28)) 27 1 (some 29))) _
  refine zV_dup dX1_init_52 rfl rfl ?_
  refine zV_callIN (E' := eX0_init (g_rmv 1)) (av := []) (st := [.ref 30, .int (nI 0), .ref 28]) (b := 30) dX1_init_53 rfl (k_RX1_31 _) rfl ⟨by decide, by decide⟩ ⟨by decide, by decide⟩ (Or.inl rfl) rfl (Nat.le_of_ble_eq_true rfl) (n_coin (q := 30) rfl (fun k => (gn_at (gn_I (q := 27) (k := 4) (v := (nI 1)) (gn_R (q := 27) (k := 1) (v := some 29) gn30 (by decide)) (by decide)) _))) (fun r53 M53 z => ?_)
  obtain ⟨rfl, rfl⟩ := z
  show zV G (eX1_init (g_rmc 2 12 80)) (3, 26) 56 [(0, .ref 27), (1, .int (nI 0))] [.ref 30, .int (nI 0), .ref 28] (sh0.take 31, (up2 I 27 4 (nI 1)), J, (up2 (up2 R 27 0 (some 28)) 27 1 (some 29))) _
  refine zV_aastore (q' := 30) 0 dX1_init_56 rfl rfl rfl rfl rfl (by decide) rfl (by decide) (by decide) ?_
  refine zV_iinc (y := (nI 1)) (lv' := [(0, .ref 27), (1, .int (nI 1))]) dX1_init_57 rfl 1 rfl (rfl) (by decide) rfl ?_
  refine zV_goto (tgt := 38) dX1_init_60 rfl ?_
  refine zV_iload_n dX1_init_38 rfl 1 rfl rfl ?_
  refine zV_bipush (v := (nI 10)) dX1_init_39 rfl rfl ?_
  refine zN_icmp_ge (tgt := 63) dX1_init_41 rfl rfl (by decide) (by decide) (fun z => absurd z (by decide)) (fun _ => ?_)
  refine zV_aload_n dX1_init_44 rfl 0 rfl rfl ?_
  refine zV_getr (q' := 28) 0 dX1_init_45 rfl fl_RX1_11 rfl (by decide) rfl rfl ?_
  refine zV_iload_n dX1_init_48 rfl 1 rfl rfl ?_
  refine zV_new (ci := 0) dX1_init_49 rfl ⟨tw32, tw34, tw3⟩ rfl (by decide) (gn_R (q := 28) (k := 0) (v := some 30) gn31 (by decide)) (by decide) ⟨by decide, by decide⟩ ?_
  have gn32 := gn_le (gn_R (q := 28) (k := 0) (v := some 30) gn31 (by decide)) (show 31 ≤ 32 by decide)
  show zV G (eX1_init (g_rmc 2 12 80)) (4, 32) 52 [(0, .ref 27), (1, .int (nI 1))] [.ref 31, .int (nI 1), .ref 28] (sh0.take 32, (up2 I 27 4 (nI 1)), J, (up2 (up2 (up2 R 27 0 (some 28)) 27 1 (some 29)) 28 0 (some 30))) _
  refine zV_dup dX1_init_52 rfl rfl ?_
  refine zV_callIN (E' := eX0_init (g_rmv 1)) (av := []) (st := [.ref 31, .int (nI 1), .ref 28]) (b := 31) dX1_init_53 rfl (k_RX1_31 _) rfl ⟨by decide, by decide⟩ ⟨by decide, by decide⟩ (Or.inl rfl) rfl (Nat.le_of_ble_eq_true rfl) (n_coin (q := 31) rfl (fun k => (gn_at (gn_R (q := 28) (k := 0) (v := some 30) gn31 (by decide)) _))) (fun r53 M53 z => ?_)
  obtain ⟨rfl, rfl⟩ := z
  show zV G (eX1_init (g_rmc 2 12 80)) (4, 32) 56 [(0, .ref 27), (1, .int (nI 1))] [.ref 31, .int (nI 1), .ref 28] (sh0.take 32, (up2 I 27 4 (nI 1)), J, (up2 (up2 (up2 R 27 0 (some 28)) 27 1 (some 29)) 28 0 (some 30))) _
  refine zV_aastore (q' := 31) 1 dX1_init_56 rfl rfl rfl rfl rfl (by decide) rfl (by decide) (by decide) ?_
  refine zV_iinc (y := (nI 2)) (lv' := [(0, .ref 27), (1, .int (nI 2))]) dX1_init_57 rfl 1 rfl (rfl) (by decide) rfl ?_
  refine zV_goto (tgt := 38) dX1_init_60 rfl ?_
  refine zV_iload_n dX1_init_38 rfl 1 rfl rfl ?_
  refine zV_bipush (v := (nI 10)) dX1_init_39 rfl rfl ?_
  refine zN_icmp_ge (tgt := 63) dX1_init_41 rfl rfl (by decide) (by decide) (fun z => absurd z (by decide)) (fun _ => ?_)
  refine zV_aload_n dX1_init_44 rfl 0 rfl rfl ?_
  refine zV_getr (q' := 28) 0 dX1_init_45 rfl fl_RX1_11 rfl (by decide) rfl rfl ?_
  refine zV_iload_n dX1_init_48 rfl 1 rfl rfl ?_
  refine zV_new (ci := 0) dX1_init_49 rfl ⟨tw32, tw34, tw3⟩ rfl (by decide) (gn_R (q := 28) (k := 1) (v := some 31) gn32 (by decide)) (by decide) ⟨by decide, by decide⟩ ?_
  have gn33 := gn_le (gn_R (q := 28) (k := 1) (v := some 31) gn32 (by decide)) (show 32 ≤ 33 by decide)
  show zV G (eX1_init (g_rmc 2 12 80)) (5, 38) 52 [(0, .ref 27), (1, .int (nI 2))] [.ref 32, .int (nI 2), .ref 28] (sh0.take 33, (up2 I 27 4 (nI 1)), J, (up2 (up2 (up2 (up2 R 27 0 (some 28)) 27 1 (some 29)) 28 0 (some 30)) 28 1 (some 31))) _
  refine zV_dup dX1_init_52 rfl rfl ?_
  refine zV_callIN (E' := eX0_init (g_rmv 1)) (av := []) (st := [.ref 32, .int (nI 2), .ref 28]) (b := 32) dX1_init_53 rfl (k_RX1_31 _) rfl ⟨by decide, by decide⟩ ⟨by decide, by decide⟩ (Or.inl rfl) rfl (Nat.le_of_ble_eq_true rfl) (n_coin (q := 32) rfl (fun k => (gn_at (gn_R (q := 28) (k := 1) (v := some 31) gn32 (by decide)) _))) (fun r53 M53 z => ?_)
  obtain ⟨rfl, rfl⟩ := z
  show zV G (eX1_init (g_rmc 2 12 80)) (5, 38) 56 [(0, .ref 27), (1, .int (nI 2))] [.ref 32, .int (nI 2), .ref 28] (sh0.take 33, (up2 I 27 4 (nI 1)), J, (up2 (up2 (up2 (up2 R 27 0 (some 28)) 27 1 (some 29)) 28 0 (some 30)) 28 1 (some 31))) _
  refine zV_aastore (q' := 32) 2 dX1_init_56 rfl rfl rfl rfl rfl (by decide) rfl (by decide) (by decide) ?_
  refine zV_iinc (y := (nI 3)) (lv' := [(0, .ref 27), (1, .int (nI 3))]) dX1_init_57 rfl 1 rfl (rfl) (by decide) rfl ?_
  refine zV_goto (tgt := 38) dX1_init_60 rfl ?_
  refine zV_iload_n dX1_init_38 rfl 1 rfl rfl ?_
  refine zV_bipush (v := (nI 10)) dX1_init_39 rfl rfl ?_
  refine zN_icmp_ge (tgt := 63) dX1_init_41 rfl rfl (by decide) (by decide) (fun z => absurd z (by decide)) (fun _ => ?_)
  refine zV_aload_n dX1_init_44 rfl 0 rfl rfl ?_
  refine zV_getr (q' := 28) 0 dX1_init_45 rfl fl_RX1_11 rfl (by decide) rfl rfl ?_
  refine zV_iload_n dX1_init_48 rfl 1 rfl rfl ?_
  refine zV_new (ci := 0) dX1_init_49 rfl ⟨tw32, tw34, tw3⟩ rfl (by decide) (gn_R (q := 28) (k := 2) (v := some 32) gn33 (by decide)) (by decide) ⟨by decide, by decide⟩ ?_
  have gn34 := gn_le (gn_R (q := 28) (k := 2) (v := some 32) gn33 (by decide)) (show 33 ≤ 34 by decide)
  show zV G (eX1_init (g_rmc 2 12 80)) (6, 44) 52 [(0, .ref 27), (1, .int (nI 3))] [.ref 33, .int (nI 3), .ref 28] (sh0.take 34, (up2 I 27 4 (nI 1)), J, (up2 (up2 (up2 (up2 (up2 R 27 0 (some 28)) 27 1 (some 29)) 28 0 (some 30)) 28 1 (some 31)) 28 2 (some 32))) _
  refine zV_dup dX1_init_52 rfl rfl ?_
  refine zV_callIN (E' := eX0_init (g_rmv 1)) (av := []) (st := [.ref 33, .int (nI 3), .ref 28]) (b := 33) dX1_init_53 rfl (k_RX1_31 _) rfl ⟨by decide, by decide⟩ ⟨by decide, by decide⟩ (Or.inl rfl) rfl (Nat.le_of_ble_eq_true rfl) (n_coin (q := 33) rfl (fun k => (gn_at (gn_R (q := 28) (k := 2) (v := some 32) gn33 (by decide)) _))) (fun r53 M53 z => ?_)
  obtain ⟨rfl, rfl⟩ := z
  show zV G (eX1_init (g_rmc 2 12 80)) (6, 44) 56 [(0, .ref 27), (1, .int (nI 3))] [.ref 33, .int (nI 3), .ref 28] (sh0.take 34, (up2 I 27 4 (nI 1)), J, (up2 (up2 (up2 (up2 (up2 R 27 0 (some 28)) 27 1 (some 29)) 28 0 (some 30)) 28 1 (some 31)) 28 2 (some 32))) _
  refine zV_aastore (q' := 33) 3 dX1_init_56 rfl rfl rfl rfl rfl (by decide) rfl (by decide) (by decide) ?_
  refine zV_iinc (y := (nI 4)) (lv' := [(0, .ref 27), (1, .int (nI 4))]) dX1_init_57 rfl 1 rfl (rfl) (by decide) rfl ?_
  refine zV_goto (tgt := 38) dX1_init_60 rfl ?_
  refine zV_iload_n dX1_init_38 rfl 1 rfl rfl ?_
  refine zV_bipush (v := (nI 10)) dX1_init_39 rfl rfl ?_
  refine zN_icmp_ge (tgt := 63) dX1_init_41 rfl rfl (by decide) (by decide) (fun z => absurd z (by decide)) (fun _ => ?_)
  refine zV_aload_n dX1_init_44 rfl 0 rfl rfl ?_
  refine zV_getr (q' := 28) 0 dX1_init_45 rfl fl_RX1_11 rfl (by decide) rfl rfl ?_
  refine zV_iload_n dX1_init_48 rfl 1 rfl rfl ?_
  refine zV_new (ci := 0) dX1_init_49 rfl ⟨tw32, tw34, tw3⟩ rfl (by decide) (gn_R (q := 28) (k := 3) (v := some 33) gn34 (by decide)) (by decide) ⟨by decide, by decide⟩ ?_
  have gn35 := gn_le (gn_R (q := 28) (k := 3) (v := some 33) gn34 (by decide)) (show 34 ≤ 35 by decide)
  show zV G (eX1_init (g_rmc 2 12 80)) (7, 50) 52 [(0, .ref 27), (1, .int (nI 4))] [.ref 34, .int (nI 4), .ref 28] (sh0.take 35, (up2 I 27 4 (nI 1)), J, (up2 (up2 (up2 (up2 (up2 (up2 R 27 0 (some 28)) 27 1 (some 29)) 28 0 (some 30)) 28 1 (some 31)) 28 2 (some 32)) 28 3 (some 33))) _
  refine zV_dup dX1_init_52 rfl rfl ?_
  refine zV_callIN (E' := eX0_init (g_rmv 1)) (av := []) (st := [.ref 34, .int (nI 4), .ref 28]) (b := 34) dX1_init_53 rfl (k_RX1_31 _) rfl ⟨by decide, by decide⟩ ⟨by decide, by decide⟩ (Or.inl rfl) rfl (Nat.le_of_ble_eq_true rfl) (n_coin (q := 34) rfl (fun k => (gn_at (gn_R (q := 28) (k := 3) (v := some 33) gn34 (by decide)) _))) (fun r53 M53 z => ?_)
  obtain ⟨rfl, rfl⟩ := z
  show zV G (eX1_init (g_rmc 2 12 80)) (7, 50) 56 [(0, .ref 27), (1, .int (nI 4))] [.ref 34, .int (nI 4), .ref 28] (sh0.take 35, (up2 I 27 4 (nI 1)), J, (up2 (up2 (up2 (up2 (up2 (up2 R 27 0 (some 28)) 27 1 (some 29)) 28 0 (some 30)) 28 1 (some 31)) 28 2 (some 32)) 28 3 (some 33))) _
  refine zV_aastore (q' := 34) 4 dX1_init_56 rfl rfl rfl rfl rfl (by decide) rfl (by decide) (by decide) ?_
  refine zV_iinc (y := (nI 5)) (lv' := [(0, .ref 27), (1, .int (nI 5))]) dX1_init_57 rfl 1 rfl (rfl) (by decide) rfl ?_
  refine zV_goto (tgt := 38) dX1_init_60 rfl ?_
  refine zV_iload_n dX1_init_38 rfl 1 rfl rfl ?_
  refine zV_bipush (v := (nI 10)) dX1_init_39 rfl rfl ?_
  refine zN_icmp_ge (tgt := 63) dX1_init_41 rfl rfl (by decide) (by decide) (fun z => absurd z (by decide)) (fun _ => ?_)
  refine zV_aload_n dX1_init_44 rfl 0 rfl rfl ?_
  refine zV_getr (q' := 28) 0 dX1_init_45 rfl fl_RX1_11 rfl (by decide) rfl rfl ?_
  refine zV_iload_n dX1_init_48 rfl 1 rfl rfl ?_
  refine zV_new (ci := 0) dX1_init_49 rfl ⟨tw32, tw34, tw3⟩ rfl (by decide) (gn_R (q := 28) (k := 4) (v := some 34) gn35 (by decide)) (by decide) ⟨by decide, by decide⟩ ?_
  have gn36 := gn_le (gn_R (q := 28) (k := 4) (v := some 34) gn35 (by decide)) (show 35 ≤ 36 by decide)
  show zV G (eX1_init (g_rmc 2 12 80)) (8, 56) 52 [(0, .ref 27), (1, .int (nI 5))] [.ref 35, .int (nI 5), .ref 28] (sh0.take 36, (up2 I 27 4 (nI 1)), J, (up2 (up2 (up2 (up2 (up2 (up2 (up2 R 27 0 (some 28)) 27 1 (some 29)) 28 0 (some 30)) 28 1 (some 31)) 28 2 (some 32)) 28 3 (some 33)) 28 4 (some 34))) _
  refine zV_dup dX1_init_52 rfl rfl ?_
  refine zV_callIN (E' := eX0_init (g_rmv 1)) (av := []) (st := [.ref 35, .int (nI 5), .ref 28]) (b := 35) dX1_init_53 rfl (k_RX1_31 _) rfl ⟨by decide, by decide⟩ ⟨by decide, by decide⟩ (Or.inl rfl) rfl (Nat.le_of_ble_eq_true rfl) (n_coin (q := 35) rfl (fun k => (gn_at (gn_R (q := 28) (k := 4) (v := some 34) gn35 (by decide)) _))) (fun r53 M53 z => ?_)
  obtain ⟨rfl, rfl⟩ := z
  show zV G (eX1_init (g_rmc 2 12 80)) (8, 56) 56 [(0, .ref 27), (1, .int (nI 5))] [.ref 35, .int (nI 5), .ref 28] (sh0.take 36, (up2 I 27 4 (nI 1)), J, (up2 (up2 (up2 (up2 (up2 (up2 (up2 R 27 0 (some 28)) 27 1 (some 29)) 28 0 (some 30)) 28 1 (some 31)) 28 2 (some 32)) 28 3 (some 33)) 28 4 (some 34))) _
  refine zV_aastore (q' := 35) 5 dX1_init_56 rfl rfl rfl rfl rfl (by decide) rfl (by decide) (by decide) ?_
  refine zV_iinc (y := (nI 6)) (lv' := [(0, .ref 27), (1, .int (nI 6))]) dX1_init_57 rfl 1 rfl (rfl) (by decide) rfl ?_
  refine zV_goto (tgt := 38) dX1_init_60 rfl ?_
  refine zV_iload_n dX1_init_38 rfl 1 rfl rfl ?_
  refine zV_bipush (v := (nI 10)) dX1_init_39 rfl rfl ?_
  refine zN_icmp_ge (tgt := 63) dX1_init_41 rfl rfl (by decide) (by decide) (fun z => absurd z (by decide)) (fun _ => ?_)
  refine zV_aload_n dX1_init_44 rfl 0 rfl rfl ?_
  refine zV_getr (q' := 28) 0 dX1_init_45 rfl fl_RX1_11 rfl (by decide) rfl rfl ?_
  refine zV_iload_n dX1_init_48 rfl 1 rfl rfl ?_
  refine zV_new (ci := 0) dX1_init_49 rfl ⟨tw32, tw34, tw3⟩ rfl (by decide) (gn_R (q := 28) (k := 5) (v := some 35) gn36 (by decide)) (by decide) ⟨by decide, by decide⟩ ?_
  have gn37 := gn_le (gn_R (q := 28) (k := 5) (v := some 35) gn36 (by decide)) (show 36 ≤ 37 by decide)
  show zV G (eX1_init (g_rmc 2 12 80)) (9, 62) 52 [(0, .ref 27), (1, .int (nI 6))] [.ref 36, .int (nI 6), .ref 28] (sh0.take 37, (up2 I 27 4 (nI 1)), J, (up2 (up2 (up2 (up2 (up2 (up2 (up2 (up2 R 27 0 (some 28)) 27 1 (some 29)) 28 0 (some 30)) 28 1 (some 31)) 28 2 (some 32)) 28 3 (some 33)) 28 4 (some 34)) 28 5 (some 35))) _
  refine zV_dup dX1_init_52 rfl rfl ?_
  refine zV_callIN (E' := eX0_init (g_rmv 1)) (av := []) (st := [.ref 36, .int (nI 6), .ref 28]) (b := 36) dX1_init_53 rfl (k_RX1_31 _) rfl ⟨by decide, by decide⟩ ⟨by decide, by decide⟩ (Or.inl rfl) rfl (Nat.le_of_ble_eq_true rfl) (n_coin (q := 36) rfl (fun k => (gn_at (gn_R (q := 28) (k := 5) (v := some 35) gn36 (by decide)) _))) (fun r53 M53 z => ?_)
  obtain ⟨rfl, rfl⟩ := z
  show zV G (eX1_init (g_rmc 2 12 80)) (9, 62) 56 [(0, .ref 27), (1, .int (nI 6))] [.ref 36, .int (nI 6), .ref 28] (sh0.take 37, (up2 I 27 4 (nI 1)), J, (up2 (up2 (up2 (up2 (up2 (up2 (up2 (up2 R 27 0 (some 28)) 27 1 (some 29)) 28 0 (some 30)) 28 1 (some 31)) 28 2 (some 32)) 28 3 (some 33)) 28 4 (some 34)) 28 5 (some 35))) _
  refine zV_aastore (q' := 36) 6 dX1_init_56 rfl rfl rfl rfl rfl (by decide) rfl (by decide) (by decide) ?_
  refine zV_iinc (y := (nI 7)) (lv' := [(0, .ref 27), (1, .int (nI 7))]) dX1_init_57 rfl 1 rfl (rfl) (by decide) rfl ?_
  refine zV_goto (tgt := 38) dX1_init_60 rfl ?_
  refine zV_iload_n dX1_init_38 rfl 1 rfl rfl ?_
  refine zV_bipush (v := (nI 10)) dX1_init_39 rfl rfl ?_
  refine zN_icmp_ge (tgt := 63) dX1_init_41 rfl rfl (by decide) (by decide) (fun z => absurd z (by decide)) (fun _ => ?_)
  refine zV_aload_n dX1_init_44 rfl 0 rfl rfl ?_
  refine zV_getr (q' := 28) 0 dX1_init_45 rfl fl_RX1_11 rfl (by decide) rfl rfl ?_
  refine zV_iload_n dX1_init_48 rfl 1 rfl rfl ?_
  refine zV_new (ci := 0) dX1_init_49 rfl ⟨tw32, tw34, tw3⟩ rfl (by decide) (gn_R (q := 28) (k := 6) (v := some 36) gn37 (by decide)) (by decide) ⟨by decide, by decide⟩ ?_
  have gn38 := gn_le (gn_R (q := 28) (k := 6) (v := some 36) gn37 (by decide)) (show 37 ≤ 38 by decide)
  show zV G (eX1_init (g_rmc 2 12 80)) (10, 68) 52 [(0, .ref 27), (1, .int (nI 7))] [.ref 37, .int (nI 7), .ref 28] (sh0.take 38, (up2 I 27 4 (nI 1)), J, (up2 (up2 (up2 (up2 (up2 (up2 (up2 (up2 (up2 R 27 0 (some 28)) 27 1 (some 29)) 28 0 (some 30)) 28 1 (some 31)) 28 2 (some 32)) 28 3 (some 33)) 28 4 (some 34)) 28 5 (some 35)) 28 6 (some 36))) _
  refine zV_dup dX1_init_52 rfl rfl ?_
  refine zV_callIN (E' := eX0_init (g_rmv 1)) (av := []) (st := [.ref 37, .int (nI 7), .ref 28]) (b := 37) dX1_init_53 rfl (k_RX1_31 _) rfl ⟨by decide, by decide⟩ ⟨by decide, by decide⟩ (Or.inl rfl) rfl (Nat.le_of_ble_eq_true rfl) (n_coin (q := 37) rfl (fun k => (gn_at (gn_R (q := 28) (k := 6) (v := some 36) gn37 (by decide)) _))) (fun r53 M53 z => ?_)
  obtain ⟨rfl, rfl⟩ := z
  show zV G (eX1_init (g_rmc 2 12 80)) (10, 68) 56 [(0, .ref 27), (1, .int (nI 7))] [.ref 37, .int (nI 7), .ref 28] (sh0.take 38, (up2 I 27 4 (nI 1)), J, (up2 (up2 (up2 (up2 (up2 (up2 (up2 (up2 (up2 R 27 0 (some 28)) 27 1 (some 29)) 28 0 (some 30)) 28 1 (some 31)) 28 2 (some 32)) 28 3 (some 33)) 28 4 (some 34)) 28 5 (some 35)) 28 6 (some 36))) _
  refine zV_aastore (q' := 37) 7 dX1_init_56 rfl rfl rfl rfl rfl (by decide) rfl (by decide) (by decide) ?_
  refine zV_iinc (y := (nI 8)) (lv' := [(0, .ref 27), (1, .int (nI 8))]) dX1_init_57 rfl 1 rfl (rfl) (by decide) rfl ?_
  refine zV_goto (tgt := 38) dX1_init_60 rfl ?_
  refine zV_iload_n dX1_init_38 rfl 1 rfl rfl ?_
  refine zV_bipush (v := (nI 10)) dX1_init_39 rfl rfl ?_
  refine zN_icmp_ge (tgt := 63) dX1_init_41 rfl rfl (by decide) (by decide) (fun z => absurd z (by decide)) (fun _ => ?_)
  refine zV_aload_n dX1_init_44 rfl 0 rfl rfl ?_
  refine zV_getr (q' := 28) 0 dX1_init_45 rfl fl_RX1_11 rfl (by decide) rfl rfl ?_
  refine zV_iload_n dX1_init_48 rfl 1 rfl rfl ?_
  refine zV_new (ci := 0) dX1_init_49 rfl ⟨tw32, tw34, tw3⟩ rfl (by decide) (gn_R (q := 28) (k := 7) (v := some 37) gn38 (by decide)) (by decide) ⟨by decide, by decide⟩ ?_
  have gn39 := gn_le (gn_R (q := 28) (k := 7) (v := some 37) gn38 (by decide)) (show 38 ≤ 39 by decide)
  show zV G (eX1_init (g_rmc 2 12 80)) (11, 74) 52 [(0, .ref 27), (1, .int (nI 8))] [.ref 38, .int (nI 8), .ref 28] (sh0.take 39, (up2 I 27 4 (nI 1)), J, (up2 (up2 (up2 (up2 (up2 (up2 (up2 (up2 (up2 (up2 R 27 0 (some 28)) 27 1 (some 29)) 28 0 (some 30)) 28 1 (some 31)) 28 2 (some 32)) 28 3 (some 33)) 28 4 (some 34)) 28 5 (some 35)) 28 6 (some 36)) 28 7 (some 37))) _
  refine zV_dup dX1_init_52 rfl rfl ?_
  refine zV_callIN (E' := eX0_init (g_rmv 1)) (av := []) (st := [.ref 38, .int (nI 8), .ref 28]) (b := 38) dX1_init_53 rfl (k_RX1_31 _) rfl ⟨by decide, by decide⟩ ⟨by decide, by decide⟩ (Or.inl rfl) rfl (Nat.le_of_ble_eq_true rfl) (n_coin (q := 38) rfl (fun k => (gn_at (gn_R (q := 28) (k := 7) (v := some 37) gn38 (by decide)) _))) (fun r53 M53 z => ?_)
  obtain ⟨rfl, rfl⟩ := z
  show zV G (eX1_init (g_rmc 2 12 80)) (11, 74) 56 [(0, .ref 27), (1, .int (nI 8))] [.ref 38, .int (nI 8), .ref 28] (sh0.take 39, (up2 I 27 4 (nI 1)), J, (up2 (up2 (up2 (up2 (up2 (up2 (up2 (up2 (up2 (up2 R 27 0 (some 28)) 27 1 (some 29)) 28 0 (some 30)) 28 1 (some 31)) 28 2 (some 32)) 28 3 (some 33)) 28 4 (some 34)) 28 5 (some 35)) 28 6 (some 36)) 28 7 (some 37))) _
  refine zV_aastore (q' := 38) 8 dX1_init_56 rfl rfl rfl rfl rfl (by decide) rfl (by decide) (by decide) ?_
  refine zV_iinc (y := (nI 9)) (lv' := [(0, .ref 27), (1, .int (nI 9))]) dX1_init_57 rfl 1 rfl (rfl) (by decide) rfl ?_
  refine zV_goto (tgt := 38) dX1_init_60 rfl ?_
  refine zV_iload_n dX1_init_38 rfl 1 rfl rfl ?_
  refine zV_bipush (v := (nI 10)) dX1_init_39 rfl rfl ?_
  refine zN_icmp_ge (tgt := 63) dX1_init_41 rfl rfl (by decide) (by decide) (fun z => absurd z (by decide)) (fun _ => ?_)
  refine zV_aload_n dX1_init_44 rfl 0 rfl rfl ?_
  refine zV_getr (q' := 28) 0 dX1_init_45 rfl fl_RX1_11 rfl (by decide) rfl rfl ?_
  refine zV_iload_n dX1_init_48 rfl 1 rfl rfl ?_
  refine zV_new (ci := 0) dX1_init_49 rfl ⟨tw32, tw34, tw3⟩ rfl (by decide) (gn_R (q := 28) (k := 8) (v := some 38) gn39 (by decide)) (by decide) ⟨by decide, by decide⟩ ?_
  have gn40 := gn_le (gn_R (q := 28) (k := 8) (v := some 38) gn39 (by decide)) (show 39 ≤ 40 by decide)
  show zV G (eX1_init (g_rmc 2 12 80)) (12, 80) 52 [(0, .ref 27), (1, .int (nI 9))] [.ref 39, .int (nI 9), .ref 28] (sh0.take 40, (up2 I 27 4 (nI 1)), J, (up2 (up2 (up2 (up2 (up2 (up2 (up2 (up2 (up2 (up2 (up2 R 27 0 (some 28)) 27 1 (some 29)) 28 0 (some 30)) 28 1 (some 31)) 28 2 (some 32)) 28 3 (some 33)) 28 4 (some 34)) 28 5 (some 35)) 28 6 (some 36)) 28 7 (some 37)) 28 8 (some 38))) _
  refine zV_dup dX1_init_52 rfl rfl ?_
  refine zV_callIN (E' := eX0_init (g_rmv 1)) (av := []) (st := [.ref 39, .int (nI 9), .ref 28]) (b := 39) dX1_init_53 rfl (k_RX1_31 _) rfl ⟨by decide, by decide⟩ ⟨by decide, by decide⟩ (Or.inl rfl) rfl (Nat.le_of_ble_eq_true rfl) (n_coin (q := 39) rfl (fun k => (gn_at (gn_R (q := 28) (k := 8) (v := some 38) gn39 (by decide)) _))) (fun r53 M53 z => ?_)
  obtain ⟨rfl, rfl⟩ := z
  show zV G (eX1_init (g_rmc 2 12 80)) (12, 80) 56 [(0, .ref 27), (1, .int (nI 9))] [.ref 39, .int (nI 9), .ref 28] (sh0.take 40, (up2 I 27 4 (nI 1)), J, (up2 (up2 (up2 (up2 (up2 (up2 (up2 (up2 (up2 (up2 (up2 R 27 0 (some 28)) 27 1 (some 29)) 28 0 (some 30)) 28 1 (some 31)) 28 2 (some 32)) 28 3 (some 33)) 28 4 (some 34)) 28 5 (some 35)) 28 6 (some 36)) 28 7 (some 37)) 28 8 (some 38))) _
  refine zV_aastore (q' := 39) 9 dX1_init_56 rfl rfl rfl rfl rfl (by decide) rfl (by decide) (by decide) ?_
  refine zV_iinc (y := (nI 10)) (lv' := [(0, .ref 27), (1, .int (nI 10))]) dX1_init_57 rfl 1 rfl (rfl) (by decide) rfl ?_
  refine zV_goto (tgt := 38) dX1_init_60 rfl ?_
  refine zV_iload_n dX1_init_38 rfl 1 rfl rfl ?_
  refine zV_bipush (v := (nI 10)) dX1_init_39 rfl rfl ?_
  refine zN_icmp_ge (tgt := 63) dX1_init_41 rfl rfl (by decide) (by decide) (fun _ => ?_) (fun z => absurd z (by decide))
  refine zV_aload_n dX1_init_63 rfl 0 rfl rfl ?_
  refine zV_getr (q' := 29) 1 dX1_init_64 rfl fl_RX1_17 rfl (by decide) rfl rfl ?_
  refine zV_iconst (v := (-1)) dX1_init_67 rfl rfl ?_
  refine zV_callS (E' := eJ7_fill_53178 (g_rmv 0)) (av := [.ref 29, .int (-1)]) (st := []) dX1_init_68 rfl (k_RX1_32 _) rfl ⟨by decide, by decide⟩ ⟨by decide, by decide⟩ (Or.inl rfl) rfl (Nat.le_of_ble_eq_true rfl) (n_fill (q := 29) rfl (x := (-1))) (fun r68 M68 z => ?_)
  obtain ⟨I68, rfl, rfl, hx68, hf68⟩ := z
  show zV G (eX1_init (g_rmc 2 12 80)) (12, 80) 71 [(0, .ref 27), (1, .int (nI 10))] [] (sh0.take 40, I68, J, (up2 (up2 (up2 (up2 (up2 (up2 (up2 (up2 (up2 (up2 (up2 (up2 R 27 0 (some 28)) 27 1 (some 29)) 28 0 (some 30)) 28 1 (some 31)) 28 2 (some 32)) 28 3 (some 33)) 28 4 (some 34)) 28 5 (some 35)) 28 6 (some 36)) 28 7 (some 37)) 28 8 (some 38)) 28 9 (some 39))) _
  exact zV_return dX1_init_71 rfl (⟨I68, rfl, rfl, by rw [hf68 27 (by decide), up2_same], fun k hk => by rw [hf68 27 (by decide), up2_nk hk], hx68, fun i h1 h2 => by rw [hf68 i h2]; funext k; exact up2_ni h1⟩)
