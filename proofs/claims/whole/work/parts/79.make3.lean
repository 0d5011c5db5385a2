/-! CONSTRUCTORS: the class -/
theorem RLd_hi {b i k : Nat} {R : Nat → Nat → Option Nat} (h1 : i ≠ b) (h2 : i ≠ b + 1) : RLd b R i k = R i k := by
  unfold RLd
  rw [up2_ni h2, up2_ni h2, up2_ni h2, up2_ni h2, up2_ni h2, up2_ni h2, up2_ni h2, up2_ni h2, up2_ni h2, up2_ni h2, up2_ni h1, up2_ni h1]
theorem gn_land {b : Nat} {I I' : Nat → Nat → Int32} {J : Nat → Nat → Int64} {R : Nat → Nat → Option Nat} (h : g_new (sh0.take (b + 1), I, J, R)) (hb : b + 13 ≤ sh0.length) (hI : ∀ i, i ≠ b → i ≠ b + 2 → I' i = I i) : g_new (sh0.take (b + 13), I', J, RLd b R) := fun i hi k => by
  have h1 : (sh0.take (b + 13)).length ≤ i := hi
  rw [List.length_take] at h1
  have h2 := h i (by show (sh0.take (b + 1)).length ≤ i; rw [List.length_take]; omega) k
  refine ⟨?_, h2.2.1, ?_⟩
  · show I' i k = 0
    rw [hI i (by omega) (by omega)]
    exact h2.1
  · show RLd b R i k = none
    rw [RLd_hi (by omega) (by omega)]
    exact h2.2.2
def RTC (R : Nat → Nat → Option Nat) : Nat → Nat → Option Nat := (up2 (up2 (up2 (up2 (up2 (up2 (up2 (up2 (up2 (up2 (up2 (up2 (up2 (up2 (up2 (up2 (up2 (up2 (up2 (up2 (up2 (fun a b => if a = 45 then (if b < 11 then some (45 + 1 + b) else none) else (up2 (up2 (up2 (up2 (up2 (RLd 27 (up2 (RLd 14 (up2 (RLd 1 R) 0 0 (some 1))) 0 1 (some 14))) 0 2 (some 27)) 0 4 (some 40)) 41 0 (some 42)) 0 6 (some 41)) 0 7 (some 43)) a b) 44 0 (some 45)) 44 1 (some 57)) 44 4 (some 58)) 44 5 (some 59)) 44 6 (some 60)) 0 8 (some 44)) 61 0 (some 62)) 61 1 (some 63)) 61 3 (some 64)) 61 4 (some 65)) 61 5 (some 66)) 0 9 (some 61)) 0 10 (some 67)) 68 0 (some 69)) 43 0 (some 68)) 70 0 (some 71)) 43 1 (some 70)) 72 0 (some 73)) 43 2 (some 72)) 74 0 (some 75)) 43 3 (some 74))
set_option maxRecDepth 100000 in
theorem n_tc {G : mG} {I : Nat → Nat → Int32} {J : Nat → Nat → Int64} {R : Nat → Nat → Option Nat} (hn : g_new (sh0.take 0, I, J, R)) : zC G yX6_init (eX6_init (g_rmc 4 75 2893)) [.ref 0] (sh0.take 1, I, J, R) (fun r M => ∃ I', r = none ∧ M = (sh0.take 76, I', J, RTC R) ∧ g_new (sh0.take 76, I', J, RTC R) ∧ I' 1 4 = nI 1 ∧ (∀ k, k ≠ 4 → I' 1 k = 0) ∧ (∀ s, s < 10 → I' 3 s = -1) ∧ ∀ i k, (i = 0 ∨ 66 < i) → 44 ≠ i → True → I' i k = 0) := by
  refine zC_of (by decide +kernel) rfl (by decide) (Nat.le_of_ble_eq_true rfl) ?_
  have gn1 := gn_le hn (show 0 ≤ 1 by decide)
  have hz0 : ∀ i k, I i k = 0 := fun i k => (hn i (Nat.zero_le _) k).1
  show zV G (eX6_init (g_rmc 4 75 2893)) (0, 0) 0 [(0, .ref 0)] [] (sh0.take 1, I, J, R) _
  refine zV_aload_n dX6_init_0 rfl 0 rfl rfl ?_
  refine zV_objInit dX6_init_1 rfl ko_RX6_3 (by decide) (by decide) ?_
  refine zV_aload_n dX6_init_4 rfl 0 rfl rfl ?_
  refine zV_new (ci := 1) dX6_init_5 rfl ⟨tw26, tw27, tw2⟩ rfl (by decide) gn1 (by decide) ⟨by decide, by decide⟩ ?_
  have gn2 := gn_le gn1 (show 1 ≤ 2 by decide)
  show zV G (eX6_init (g_rmc 4 75 2893)) (1, 5) 8 [(0, .ref 0)] [.ref 1, .ref 0] (sh0.take 2, I, J, R) _
  refine zV_dup dX6_init_8 rfl rfl ?_
  refine zV_callI (E' := eX1_init (g_rmc 2 12 80)) (av := []) (st := [.ref 1, .ref 0]) (b := 1) dX6_init_9 rfl (k_RX6_11 _) rfl ⟨by decide, by decide⟩ ⟨by decide, by decide⟩ (Or.inr (fun r M q => by obtain ⟨_, _, e, _⟩ := q; rw [e]; show (sh0.take 2).length + 12 ≤ (sh0.take 14).length; decide)) rfl (Nat.le_of_ble_eq_true rfl) (n_land1 (fun _ => (gn_at gn1 _)) gn2) (fun r9 M9 z => ?_)
  obtain ⟨I9, rfl, rfl, hA9, hB9, hC9, hF9⟩ := z
  have gnL9 := gn_land (b := 1) gn2 (by decide) hF9
  show zV G (eX6_init (g_rmc 4 75 2893)) (13, 85) 12 [(0, .ref 0)] [.ref 1, .ref 0] (sh0.take 14, I9, J, (RLd 1 R)) _
  refine zV_putF (q' := 1) 0 dX6_init_12 rfl rfl fl_RX6_12 rfl (by decide) rfl (fun _ => rfl) (fun _ => rfl) ?_
  refine zV_aload_n dX6_init_15 rfl 0 rfl rfl ?_
  refine zV_new (ci := 1) dX6_init_16 rfl ⟨tw26, tw27, tw2⟩ rfl (by decide) (gn_R (q := 0) (k := 0) (v := some 1) gnL9 (by decide)) (by decide) ⟨by decide, by decide⟩ ?_
  have gn15 := gn_le (gn_R (q := 0) (k := 0) (v := some 1) gnL9 (by decide)) (show 14 ≤ 15 by decide)
  show zV G (eX6_init (g_rmc 4 75 2893)) (14, 90) 19 [(0, .ref 0)] [.ref 14, .ref 0] (sh0.take 15, I9, J, (up2 (RLd 1 R) 0 0 (some 1))) _
  refine zV_dup dX6_init_19 rfl rfl ?_
  refine zV_callI (E' := eX1_init (g_rmc 2 12 80)) (av := []) (st := [.ref 14, .ref 0]) (b := 14) dX6_init_20 rfl (k_RX6_11 _) rfl ⟨by decide, by decide⟩ ⟨by decide, by decide⟩ (Or.inr (fun r M q => by obtain ⟨_, _, e, _⟩ := q; rw [e]; show (sh0.take 15).length + 12 ≤ (sh0.take 27).length; decide)) rfl (Nat.le_of_ble_eq_true rfl) (n_land14 (fun _ => (gn_at (gn_R (q := 0) (k := 0) (v := some 1) gnL9 (by decide)) _)) gn15) (fun r20 M20 z => ?_)
  obtain ⟨I20, rfl, rfl, hA20, hB20, hC20, hF20⟩ := z
  have gnL20 := gn_land (b := 14) gn15 (by decide) hF20
  show zV G (eX6_init (g_rmc 4 75 2893)) (26, 170) 23 [(0, .ref 0)] [.ref 14, .ref 0] (sh0.take 27, I20, J, (RLd 14 (up2 (RLd 1 R) 0 0 (some 1)))) _
  refine zV_putF (q' := 14) 1 dX6_init_23 rfl rfl fl_RX6_16 rfl (by decide) rfl (fun _ => rfl) (fun _ => rfl) ?_
  refine zV_aload_n dX6_init_26 rfl 0 rfl rfl ?_
  refine zV_new (ci := 1) dX6_init_27 rfl ⟨tw26, tw27, tw2⟩ rfl (by decide) (gn_R (q := 0) (k := 1) (v := some 14) gnL20 (by decide)) (by decide) ⟨by decide, by decide⟩ ?_
  have gn28 := gn_le (gn_R (q := 0) (k := 1) (v := some 14) gnL20 (by decide)) (show 27 ≤ 28 by decide)
  show zV G (eX6_init (g_rmc 4 75 2893)) (27, 175) 30 [(0, .ref 0)] [.ref 27, .ref 0] (sh0.take 28, I20, J, (up2 (RLd 14 (up2 (RLd 1 R) 0 0 (some 1))) 0 1 (some 14))) _
  refine zV_dup dX6_init_30 rfl rfl ?_
  refine zV_callI (E' := eX1_init (g_rmc 2 12 80)) (av := []) (st := [.ref 27, .ref 0]) (b := 27) dX6_init_31 rfl (k_RX6_11 _) rfl ⟨by decide, by decide⟩ ⟨by decide, by decide⟩ (Or.inr (fun r M q => by obtain ⟨_, _, e, _⟩ := q; rw [e]; show (sh0.take 28).length + 12 ≤ (sh0.take 40).length; decide)) rfl (Nat.le_of_ble_eq_true rfl) (n_land27 (fun _ => (gn_at (gn_R (q := 0) (k := 1) (v := some 14) gnL20 (by decide)) _)) gn28) (fun r31 M31 z => ?_)
  obtain ⟨I31, rfl, rfl, hA31, hB31, hC31, hF31⟩ := z
  have gnL31 := gn_land (b := 27) gn28 (by decide) hF31
  show zV G (eX6_init (g_rmc 4 75 2893)) (39, 255) 34 [(0, .ref 0)] [.ref 27, .ref 0] (sh0.take 40, I31, J, (RLd 27 (up2 (RLd 14 (up2 (RLd 1 R) 0 0 (some 1))) 0 1 (some 14)))) _
  refine zV_putF (q' := 27) 2 dX6_init_34 rfl rfl fl_RX6_19 rfl (by decide) rfl (fun _ => rfl) (fun _ => rfl) ?_
  refine zV_aload_n dX6_init_37 rfl 0 rfl rfl ?_
  refine zV_iconst (v := (nI 0)) dX6_init_38 rfl rfl ?_
  refine zV_puti 3 dX6_init_39 rfl fl_RX6_22 rfl (by decide) rfl rfl rfl ?_
  rw [up2_id (show I31 0 3 = nI 0 from ((congrFun (hF31 0 (by decide) (by decide)) _).trans ((congrFun (hF20 0 (by decide) (by decide)) _).trans ((congrFun (hF9 0 (by decide) (by decide)) _).trans (hz0 0 _)))))]
  refine zV_aload_n dX6_init_42 rfl 0 rfl rfl ?_
  refine zV_bipush (v := (nI 120)) dX6_init_43 rfl rfl ?_
  refine zV_newa (t := 0) (N := 120) dX6_init_45 rfl tw73 rfl (by decide) rfl (by decide) (gn_R (q := 0) (k := 2) (v := some 27) gnL31 (by decide)) (by decide) ⟨by decide, by decide⟩ ?_
  have gn41 := gn_le (gn_R (q := 0) (k := 2) (v := some 27) gnL31 (by decide)) (show 40 ≤ 41 by decide)
  show zV G (eX6_init (g_rmc 4 75 2893)) (40, 375) 47 [(0, .ref 0)] [.ref 40, .ref 0] (sh0.take 41, I31, J, (up2 (RLd 27 (up2 (RLd 14 (up2 (RLd 1 R) 0 0 (some 1))) 0 1 (some 14))) 0 2 (some 27))) _
  refine zV_putF (q' := 40) 4 dX6_init_47 rfl rfl fl_RX6_26 rfl (by decide) rfl (fun _ => rfl) (fun _ => rfl) ?_
  refine zV_aload_n dX6_init_50 rfl 0 rfl rfl ?_
  refine zV_iconst (v := (nI 0)) dX6_init_51 rfl rfl ?_
  refine zV_puti 5 dX6_init_52 rfl fl_RX6_30 rfl (by decide) rfl rfl rfl ?_
  rw [up2_id (show I31 0 5 = nI 0 from ((congrFun (hF31 0 (by decide) (by decide)) _).trans ((congrFun (hF20 0 (by decide) (by decide)) _).trans ((congrFun (hF9 0 (by decide) (by decide)) _).trans (hz0 0 _)))))]
  refine zV_aload_n dX6_init_55 rfl 0 rfl rfl ?_
  refine zV_new (ci := 3) dX6_init_56 rfl ⟨tw104, tw105, tw5⟩ rfl (by decide) (gn_R (q := 0) (k := 4) (v := some 40) gn41 (by decide)) (by decide) ⟨by decide, by decide⟩ ?_
  have gn42 := gn_le (gn_R (q := 0) (k := 4) (v := some 40) gn41 (by decide)) (show 41 ≤ 42 by decide)
  show zV G (eX6_init (g_rmc 4 75 2893)) (41, 381) 59 [(0, .ref 0)] [.ref 41, .ref 0] (sh0.take 42, I31, J, (up2 (up2 (RLd 27 (up2 (RLd 14 (up2 (RLd 1 R) 0 0 (some 1))) 0 1 (some 14))) 0 2 (some 27)) 0 4 (some 40))) _
  refine zV_dup dX6_init_59 rfl rfl ?_
  refine zV_callIN (E' := eX3_init (g_rmc 1 1 0)) (av := []) (st := [.ref 41, .ref 0]) (b := 41) dX6_init_60 rfl (k_RX6_36 _) rfl ⟨by decide, by decide⟩ ⟨by decide, by decide⟩ (Or.inr (fun r M q => by obtain ⟨_, e⟩ := q; rw [e]; show (sh0.take 42).length + 1 ≤ (sh0.take 43).length; decide)) rfl (Nat.le_of_ble_eq_true rfl) (n_reader (fun _ => (gn_at (gn_R (q := 0) (k := 4) (v := some 40) gn41 (by decide)) _)) gn42) (fun r60 M60 z => ?_)
  obtain ⟨rfl, rfl⟩ := z
  have gnR := gn_le (gn_R (q := 41) (k := 0) (v := some 42) gn42 (by decide)) (show 42 ≤ 43 by decide)
  show zV G (eX6_init (g_rmc 4 75 2893)) (42, 381) 63 [(0, .ref 0)] [.ref 41, .ref 0] (sh0.take 43, I31, J, (up2 (up2 (up2 (RLd 27 (up2 (RLd 14 (up2 (RLd 1 R) 0 0 (some 1))) 0 1 (some 14))) 0 2 (some 27)) 0 4 (some 40)) 41 0 (some 42))) _
  refine zV_putF (q' := 41) 6 dX6_init_63 rfl rfl fl_RX6_37 rfl (by decide) rfl (fun _ => rfl) (fun _ => rfl) ?_
  refine zV_aload_n dX6_init_66 rfl 0 rfl rfl ?_
  refine zV_iconst (v := (nI 4)) dX6_init_67 rfl rfl ?_
  refine zV_newq (t := 4) (N := 4) dX6_init_68 rfl tw129 (by decide) rfl (by decide) rfl (by decide) (gn_R (q := 0) (k := 6) (v := some 41) gnR (by decide)) (by decide) ⟨by decide, by decide⟩ ?_
  have gn44 := gn_le (gn_R (q := 0) (k := 6) (v := some 41) gnR (by decide)) (show 43 ≤ 44 by decide)
  show zV G (eX6_init (g_rmc 4 75 2893)) (43, 385) 71 [(0, .ref 0)] [.ref 43, .ref 0] (sh0.take 44, I31, J, (up2 (up2 (up2 (up2 (RLd 27 (up2 (RLd 14 (up2 (RLd 1 R) 0 0 (some 1))) 0 1 (some 14))) 0 2 (some 27)) 0 4 (some 40)) 41 0 (some 42)) 0 6 (some 41))) _
  refine zV_putF (q' := 43) 7 dX6_init_71 rfl rfl fl_RX6_43 rfl (by decide) rfl (fun _ => rfl) (fun _ => rfl) ?_
  refine zV_aload_n dX6_init_74 rfl 0 rfl rfl ?_
  refine zV_new (ci := 2) dX6_init_75 rfl ⟨tw131, tw132, tw6⟩ rfl (by decide) (gn_R (q := 0) (k := 7) (v := some 43) gn44 (by decide)) (by decide) ⟨by decide, by decide⟩ ?_
  have gn45 := gn_le (gn_R (q := 0) (k := 7) (v := some 43) gn44 (by decide)) (show 44 ≤ 45 by decide)
  show zV G (eX6_init (g_rmc 4 75 2893)) (44, 394) 78 [(0, .ref 0)] [.ref 44, .ref 0] (sh0.take 45, I31, J, (up2 (up2 (up2 (up2 (up2 (RLd 27 (up2 (RLd 14 (up2 (RLd 1 R) 0 0 (some 1))) 0 1 (some 14))) 0 2 (some 27)) 0 4 (some 40)) 41 0 (some 42)) 0 6 (some 41)) 0 7 (some 43))) _
  refine zV_dup dX6_init_78 rfl rfl ?_
  refine zV_callIN (E' := eX2_init (g_rmc 1 16 233)) (av := []) (st := [.ref 44, .ref 0]) (b := 44) dX6_init_79 rfl (k_RX6_49 _) rfl ⟨by decide, by decide⟩ ⟨by decide, by decide⟩ (Or.inr (fun r M q => by obtain ⟨_, e⟩ := q; rw [e]; show (sh0.take 45).length + 16 ≤ (sh0.take 61).length; decide)) rfl (Nat.le_of_ble_eq_true rfl) (n_reach (fun _ => (gn_at (gn_R (q := 0) (k := 7) (v := some 43) gn44 (by decide)) _)) gn45) (fun r79 M79 z => ?_)
  obtain ⟨rfl, rfl⟩ := z
  have gnE := gn_le (gn_I (q := 44) (k := 8) (v := nI 11264) (gn_I (q := 44) (k := 3) (v := nI 16) (gn_I (q := 44) (k := 2) (v := nI 1) (gn_R (q := 44) (k := 6) (v := some 60) (gn_R (q := 44) (k := 5) (v := some 59) (gn_R (q := 44) (k := 4) (v := some 58) (gn_R (q := 44) (k := 1) (v := some 57) (gn_R (q := 44) (k := 0) (v := some 45) (gn_M (n := 45) (N := 11) gn45 (by decide)) (by decide)) (by decide)) (by decide)) (by decide)) (by decide)) (by decide)) (by decide)) (by decide)) (show 57 ≤ 61 by decide)
  show zV G (eX6_init (g_rmc 4 75 2893)) (60, 627) 82 [(0, .ref 0)] [.ref 44, .ref 0] (sh0.take 61, (up2 (up2 (up2 I31 44 2 (nI 1)) 44 3 (nI 16)) 44 8 (nI 11264)), J, (up2 (up2 (up2 (up2 (up2 (fun a b => if a = 45 then (if b < 11 then some (45 + 1 + b) else none) else (up2 (up2 (up2 (up2 (up2 (RLd 27 (up2 (RLd 14 (up2 (RLd 1 R) 0 0 (some 1))) 0 1 (some 14))) 0 2 (some 27)) 0 4 (some 40)) 41 0 (some 42)) 0 6 (some 41)) 0 7 (some 43)) a b) 44 0 (some 45)) 44 1 (some 57)) 44 4 (some 58)) 44 5 (some 59)) 44 6 (some 60))) _
  refine zV_putF (q' := 44) 8 dX6_init_82 rfl rfl fl_RX6_50 rfl (by decide) rfl (fun _ => rfl) (fun _ => rfl) ?_
  refine zV_aload_n dX6_init_85 rfl 0 rfl rfl ?_
  refine zV_new (ci := 5) dX6_init_86 rfl ⟨tw168, tw169, tw7⟩ rfl (by decide) (gn_R (q := 0) (k := 8) (v := some 44) gnE (by decide)) (by decide) ⟨by decide, by decide⟩ ?_
  have gn62 := gn_le (gn_R (q := 0) (k := 8) (v := some 44) gnE (by decide)) (show 61 ≤ 62 by decide)
  show zV G (eX6_init (g_rmc 4 75 2893)) (61, 636) 89 [(0, .ref 0)] [.ref 61, .ref 0] (sh0.take 62, (up2 (up2 (up2 I31 44 2 (nI 1)) 44 3 (nI 16)) 44 8 (nI 11264)), J, (up2 (up2 (up2 (up2 (up2 (up2 (fun a b => if a = 45 then (if b < 11 then some (45 + 1 + b) else none) else (up2 (up2 (up2 (up2 (up2 (RLd 27 (up2 (RLd 14 (up2 (RLd 1 R) 0 0 (some 1))) 0 1 (some 14))) 0 2 (some 27)) 0 4 (some 40)) 41 0 (some 42)) 0 6 (some 41)) 0 7 (some 43)) a b) 44 0 (some 45)) 44 1 (some 57)) 44 4 (some 58)) 44 5 (some 59)) 44 6 (some 60)) 0 8 (some 44))) _
  refine zV_dup dX6_init_89 rfl rfl ?_
  refine zV_callIN (E' := eX5_init (g_rmc 1 5 2078)) (av := []) (st := [.ref 61, .ref 0]) (b := 61) dX6_init_90 rfl (k_RX6_56 _) rfl ⟨by decide, by decide⟩ ⟨by decide, by decide⟩ (Or.inr (fun r M q => by obtain ⟨_, e⟩ := q; rw [e]; show (sh0.take 62).length + 5 ≤ (sh0.take 67).length; decide)) rfl (Nat.le_of_ble_eq_true rfl) (n_trades (fun _ => (gn_at (gn_R (q := 0) (k := 8) (v := some 44) gnE (by decide)) _)) gn62) (fun r90 M90 z => ?_)
  obtain ⟨rfl, rfl⟩ := z
  have gnT := gn_le (gn_R (q := 61) (k := 5) (v := some 66) (gn_R (q := 61) (k := 4) (v := some 65) (gn_R (q := 61) (k := 3) (v := some 64) (gn_R (q := 61) (k := 1) (v := some 63) (gn_R (q := 61) (k := 0) (v := some 62) gn62 (by decide)) (by decide)) (by decide)) (by decide)) (by decide)) (show 62 ≤ 67 by decide)
  show zV G (eX6_init (g_rmc 4 75 2893)) (66, 2714) 93 [(0, .ref 0)] [.ref 61, .ref 0] (sh0.take 67, (up2 (up2 (up2 I31 44 2 (nI 1)) 44 3 (nI 16)) 44 8 (nI 11264)), J, (up2 (up2 (up2 (up2 (up2 (up2 (up2 (up2 (up2 (up2 (up2 (fun a b => if a = 45 then (if b < 11 then some (45 + 1 + b) else none) else (up2 (up2 (up2 (up2 (up2 (RLd 27 (up2 (RLd 14 (up2 (RLd 1 R) 0 0 (some 1))) 0 1 (some 14))) 0 2 (some 27)) 0 4 (some 40)) 41 0 (some 42)) 0 6 (some 41)) 0 7 (some 43)) a b) 44 0 (some 45)) 44 1 (some 57)) 44 4 (some 58)) 44 5 (some 59)) 44 6 (some 60)) 0 8 (some 44)) 61 0 (some 62)) 61 1 (some 63)) 61 3 (some 64)) 61 4 (some 65)) 61 5 (some 66))) _
  refine zV_putF (q' := 61) 9 dX6_init_93 rfl rfl fl_RX6_57 rfl (by decide) rfl (fun _ => rfl) (fun _ => rfl) ?_
  refine zV_aload_n dX6_init_96 rfl 0 rfl rfl ?_
  refine zV_bipush (v := (nI 7)) dX6_init_97 rfl rfl ?_
  refine zV_newa (t := 0) (N := 7) dX6_init_99 rfl tw73 rfl (by decide) rfl (by decide) (gn_R (q := 0) (k := 9) (v := some 61) gnT (by decide)) (by decide) ⟨by decide, by decide⟩ ?_
  have gn68 := gn_le (gn_R (q := 0) (k := 9) (v := some 61) gnT (by decide)) (show 67 ≤ 68 by decide)
  show zV G (eX6_init (g_rmc 4 75 2893)) (67, 2721) 101 [(0, .ref 0)] [.ref 67, .ref 0] (sh0.take 68, (up2 (up2 (up2 I31 44 2 (nI 1)) 44 3 (nI 16)) 44 8 (nI 11264)), J, (up2 (up2 (up2 (up2 (up2 (up2 (up2 (up2 (up2 (up2 (up2 (up2 (fun a b => if a = 45 then (if b < 11 then some (45 + 1 + b) else none) else (up2 (up2 (up2 (up2 (up2 (RLd 27 (up2 (RLd 14 (up2 (RLd 1 R) 0 0 (some 1))) 0 1 (some 14))) 0 2 (some 27)) 0 4 (some 40)) 41 0 (some 42)) 0 6 (some 41)) 0 7 (some 43)) a b) 44 0 (some 45)) 44 1 (some 57)) 44 4 (some 58)) 44 5 (some 59)) 44 6 (some 60)) 0 8 (some 44)) 61 0 (some 62)) 61 1 (some 63)) 61 3 (some 64)) 61 4 (some 65)) 61 5 (some 66)) 0 9 (some 61))) _
  refine zV_putF (q' := 67) 10 dX6_init_101 rfl rfl fl_RX6_61 rfl (by decide) rfl (fun _ => rfl) (fun _ => rfl) ?_
  refine zV_iconst (v := (nI 0)) dX6_init_104 rfl rfl ?_
  refine zV_istore_n (lv' := [(0, .ref 0), (1, .int (nI 0))]) dX6_init_105 rfl rfl (by decide) rfl ?_
  refine zV_iload_n dX6_init_106 rfl 1 rfl rfl ?_
  refine zV_iconst (v := (nI 4)) dX6_init_107 rfl rfl ?_
  refine zN_icmp_ge (tgt := 130) dX6_init_108 rfl rfl (by decide) (by decide) (fun z => absurd z (by decide)) (fun _ => ?_)
  refine zV_aload_n dX6_init_111 rfl 0 rfl rfl ?_
  refine zV_getr (q' := 43) 7 dX6_init_112 rfl fl_RX6_43 rfl (by decide) rfl rfl ?_
  refine zV_iload_n dX6_init_115 rfl 1 rfl rfl ?_
  refine zV_new (ci := 4) dX6_init_116 rfl ⟨tw129, tw205, tw8⟩ rfl (by decide) (gn_R (q := 0) (k := 10) (v := some 67) gn68 (by decide)) (by decide) ⟨by decide, by decide⟩ ?_
  have gn69 := gn_le (gn_R (q := 0) (k := 10) (v := some 67) gn68 (by decide)) (show 68 ≤ 69 by decide)
  show zV G (eX6_init (g_rmc 4 75 2893)) (68, 2724) 119 [(0, .ref 0), (1, .int (nI 0))] [.ref 68, .int (nI 0), .ref 43] (sh0.take 69, (up2 (up2 (up2 I31 44 2 (nI 1)) 44 3 (nI 16)) 44 8 (nI 11264)), J, (up2 (up2 (up2 (up2 (up2 (up2 (up2 (up2 (up2 (up2 (up2 (up2 (up2 (fun a b => if a = 45 then (if b < 11 then some (45 + 1 + b) else none) else (up2 (up2 (up2 (up2 (up2 (RLd 27 (up2 (RLd 14 (up2 (RLd 1 R) 0 0 (some 1))) 0 1 (some 14))) 0 2 (some 27)) 0 4 (some 40)) 41 0 (some 42)) 0 6 (some 41)) 0 7 (some 43)) a b) 44 0 (some 45)) 44 1 (some 57)) 44 4 (some 58)) 44 5 (some 59)) 44 6 (some 60)) 0 8 (some 44)) 61 0 (some 62)) 61 1 (some 63)) 61 3 (some 64)) 61 4 (some 65)) 61 5 (some 66)) 0 9 (some 61)) 0 10 (some 67))) _
  refine zV_dup dX6_init_119 rfl rfl ?_
  refine zV_callIN (E' := eX4_init (g_rmc 1 1 40)) (av := []) (st := [.ref 68, .int (nI 0), .ref 43]) (b := 68) dX6_init_120 rfl (k_RX6_64 _) rfl ⟨by decide, by decide⟩ ⟨by decide, by decide⟩ (Or.inr (fun r M q => by obtain ⟨_, e⟩ := q; rw [e]; show (sh0.take 69).length + 1 ≤ (sh0.take 70).length; decide)) rfl (Nat.le_of_ble_eq_true rfl) (n_sheet0 (fun _ => (gn_at (gn_R (q := 0) (k := 10) (v := some 67) gn68 (by decide)) _)) gn69) (fun r120 M120 z => ?_)
  obtain ⟨rfl, rfl⟩ := z
  have gnS0 := gn_le (gn_R (q := 68) (k := 0) (v := some 69) gn69 (by decide)) (show 69 ≤ 70 by decide)
  show zV G (eX6_init (g_rmc 4 75 2893)) (69, 2764) 123 [(0, .ref 0), (1, .int (nI 0))] [.ref 68, .int (nI 0), .ref 43] (sh0.take 70, (up2 (up2 (up2 I31 44 2 (nI 1)) 44 3 (nI 16)) 44 8 (nI 11264)), J, (up2 (up2 (up2 (up2 (up2 (up2 (up2 (up2 (up2 (up2 (up2 (up2 (up2 (up2 (fun a b => if a = 45 then (if b < 11 then some (45 + 1 + b) else none) else (up2 (up2 (up2 (up2 (up2 (RLd 27 (up2 (RLd 14 (up2 (RLd 1 R) 0 0 (some 1))) 0 1 (some 14))) 0 2 (some 27)) 0 4 (some 40)) 41 0 (some 42)) 0 6 (some 41)) 0 7 (some 43)) a b) 44 0 (some 45)) 44 1 (some 57)) 44 4 (some 58)) 44 5 (some 59)) 44 6 (some 60)) 0 8 (some 44)) 61 0 (some 62)) 61 1 (some 63)) 61 3 (some 64)) 61 4 (some 65)) 61 5 (some 66)) 0 9 (some 61)) 0 10 (some 67)) 68 0 (some 69))) _
  refine zV_aastore (q' := 68) 0 dX6_init_123 rfl rfl rfl rfl rfl (by decide) rfl (by decide) (by decide) ?_
  refine zV_iinc (y := (nI 1)) (lv' := [(0, .ref 0), (1, .int (nI 1))]) dX6_init_124 rfl 1 rfl (rfl) (by decide) rfl ?_
  refine zV_goto (tgt := 106) dX6_init_127 rfl ?_
  refine zV_iload_n dX6_init_106 rfl 1 rfl rfl ?_
  refine zV_iconst (v := (nI 4)) dX6_init_107 rfl rfl ?_
  refine zN_icmp_ge (tgt := 130) dX6_init_108 rfl rfl (by decide) (by decide) (fun z => absurd z (by decide)) (fun _ => ?_)
  refine zV_aload_n dX6_init_111 rfl 0 rfl rfl ?_
  refine zV_getr (q' := 43) 7 dX6_init_112 rfl fl_RX6_43 rfl (by decide) rfl rfl ?_
  refine zV_iload_n dX6_init_115 rfl 1 rfl rfl ?_
  refine zV_new (ci := 4) dX6_init_116 rfl ⟨tw129, tw205, tw8⟩ rfl (by decide) (gn_R (q := 43) (k := 0) (v := some 68) gnS0 (by decide)) (by decide) ⟨by decide, by decide⟩ ?_
  have gn71 := gn_le (gn_R (q := 43) (k := 0) (v := some 68) gnS0 (by decide)) (show 70 ≤ 71 by decide)
  show zV G (eX6_init (g_rmc 4 75 2893)) (70, 2767) 119 [(0, .ref 0), (1, .int (nI 1))] [.ref 70, .int (nI 1), .ref 43] (sh0.take 71, (up2 (up2 (up2 I31 44 2 (nI 1)) 44 3 (nI 16)) 44 8 (nI 11264)), J, (up2 (up2 (up2 (up2 (up2 (up2 (up2 (up2 (up2 (up2 (up2 (up2 (up2 (up2 (up2 (fun a b => if a = 45 then (if b < 11 then some (45 + 1 + b) else none) else (up2 (up2 (up2 (up2 (up2 (RLd 27 (up2 (RLd 14 (up2 (RLd 1 R) 0 0 (some 1))) 0 1 (some 14))) 0 2 (some 27)) 0 4 (some 40)) 41 0 (some 42)) 0 6 (some 41)) 0 7 (some 43)) a b) 44 0 (some 45)) 44 1 (some 57)) 44 4 (some 58)) 44 5 (some 59)) 44 6 (some 60)) 0 8 (some 44)) 61 0 (some 62)) 61 1 (some 63)) 61 3 (some 64)) 61 4 (some 65)) 61 5 (some 66)) 0 9 (some 61)) 0 10 (some 67)) 68 0 (some 69)) 43 0 (some 68))) _
  refine zV_dup dX6_init_119 rfl rfl ?_
  refine zV_callIN (E' := eX4_init (g_rmc 1 1 40)) (av := []) (st := [.ref 70, .int (nI 1), .ref 43]) (b := 70) dX6_init_120 rfl (k_RX6_64 _) rfl ⟨by decide, by decide⟩ ⟨by decide, by decide⟩ (Or.inr (fun r M q => by obtain ⟨_, e⟩ := q; rw [e]; show (sh0.take 71).length + 1 ≤ (sh0.take 72).length; decide)) rfl (Nat.le_of_ble_eq_true rfl) (n_sheet1 (fun _ => (gn_at (gn_R (q := 43) (k := 0) (v := some 68) gnS0 (by decide)) _)) gn71) (fun r120 M120 z => ?_)
  obtain ⟨rfl, rfl⟩ := z
  have gnS1 := gn_le (gn_R (q := 70) (k := 0) (v := some 71) gn71 (by decide)) (show 71 ≤ 72 by decide)
  show zV G (eX6_init (g_rmc 4 75 2893)) (71, 2807) 123 [(0, .ref 0), (1, .int (nI 1))] [.ref 70, .int (nI 1), .ref 43] (sh0.take 72, (up2 (up2 (up2 I31 44 2 (nI 1)) 44 3 (nI 16)) 44 8 (nI 11264)), J, (up2 (up2 (up2 (up2 (up2 (up2 (up2 (up2 (up2 (up2 (up2 (up2 (up2 (up2 (up2 (up2 (fun a b => if a = 45 then (if b < 11 then some (45 + 1 + b) else none) else (up2 (up2 (up2 (up2 (up2 (RLd 27 (up2 (RLd 14 (up2 (RLd 1 R) 0 0 (some 1))) 0 1 (some 14))) 0 2 (some 27)) 0 4 (some 40)) 41 0 (some 42)) 0 6 (some 41)) 0 7 (some 43)) a b) 44 0 (some 45)) 44 1 (some 57)) 44 4 (some 58)) 44 5 (some 59)) 44 6 (some 60)) 0 8 (some 44)) 61 0 (some 62)) 61 1 (some 63)) 61 3 (some 64)) 61 4 (some 65)) 61 5 (some 66)) 0 9 (some 61)) 0 10 (some 67)) 68 0 (some 69)) 43 0 (some 68)) 70 0 (some 71))) _
  refine zV_aastore (q' := 70) 1 dX6_init_123 rfl rfl rfl rfl rfl (by decide) rfl (by decide) (by decide) ?_
  refine zV_iinc (y := (nI 2)) (lv' := [(0, .ref 0), (1, .int (nI 2))]) dX6_init_124 rfl 1 rfl (rfl) (by decide) rfl ?_
  refine zV_goto (tgt := 106) dX6_init_127 rfl ?_
  refine zV_iload_n dX6_init_106 rfl 1 rfl rfl ?_
  refine zV_iconst (v := (nI 4)) dX6_init_107 rfl rfl ?_
  refine zN_icmp_ge (tgt := 130) dX6_init_108 rfl rfl (by decide) (by decide) (fun z => absurd z (by decide)) (fun _ => ?_)
  refine zV_aload_n dX6_init_111 rfl 0 rfl rfl ?_
  refine zV_getr (q' := 43) 7 dX6_init_112 rfl fl_RX6_43 rfl (by decide) rfl rfl ?_
  refine zV_iload_n dX6_init_115 rfl 1 rfl rfl ?_
  refine zV_new (ci := 4) dX6_init_116 rfl ⟨tw129, tw205, tw8⟩ rfl (by decide) (gn_R (q := 43) (k := 1) (v := some 70) gnS1 (by decide)) (by decide) ⟨by decide, by decide⟩ ?_
  have gn73 := gn_le (gn_R (q := 43) (k := 1) (v := some 70) gnS1 (by decide)) (show 72 ≤ 73 by decide)
  show zV G (eX6_init (g_rmc 4 75 2893)) (72, 2810) 119 [(0, .ref 0), (1, .int (nI 2))] [.ref 72, .int (nI 2), .ref 43] (sh0.take 73, (up2 (up2 (up2 I31 44 2 (nI 1)) 44 3 (nI 16)) 44 8 (nI 11264)), J, (up2 (up2 (up2 (up2 (up2 (up2 (up2 (up2 (up2 (up2 (up2 (up2 (up2 (up2 (up2 (up2 (up2 (fun a b => if a = 45 then (if b < 11 then some (45 + 1 + b) else none) else (up2 (up2 (up2 (up2 (up2 (RLd 27 (up2 (RLd 14 (up2 (RLd 1 R) 0 0 (some 1))) 0 1 (some 14))) 0 2 (some 27)) 0 4 (some 40)) 41 0 (some 42)) 0 6 (some 41)) 0 7 (some 43)) a b) 44 0 (some 45)) 44 1 (some 57)) 44 4 (some 58)) 44 5 (some 59)) 44 6 (some 60)) 0 8 (some 44)) 61 0 (some 62)) 61 1 (some 63)) 61 3 (some 64)) 61 4 (some 65)) 61 5 (some 66)) 0 9 (some 61)) 0 10 (some 67)) 68 0 (some 69)) 43 0 (some 68)) 70 0 (some 71)) 43 1 (some 70))) _
  refine zV_dup dX6_init_119 rfl rfl ?_
  refine zV_callIN (E' := eX4_init (g_rmc 1 1 40)) (av := []) (st := [.ref 72, .int (nI 2), .ref 43]) (b := 72) dX6_init_120 rfl (k_RX6_64 _) rfl ⟨by decide, by decide⟩ ⟨by decide, by decide⟩ (Or.inr (fun r M q => by obtain ⟨_, e⟩ := q; rw [e]; show (sh0.take 73).length + 1 ≤ (sh0.take 74).length; decide)) rfl (Nat.le_of_ble_eq_true rfl) (n_sheet2 (fun _ => (gn_at (gn_R (q := 43) (k := 1) (v := some 70) gnS1 (by decide)) _)) gn73) (fun r120 M120 z => ?_)
  obtain ⟨rfl, rfl⟩ := z
  have gnS2 := gn_le (gn_R (q := 72) (k := 0) (v := some 73) gn73 (by decide)) (show 73 ≤ 74 by decide)
  show zV G (eX6_init (g_rmc 4 75 2893)) (73, 2850) 123 [(0, .ref 0), (1, .int (nI 2))] [.ref 72, .int (nI 2), .ref 43] (sh0.take 74, (up2 (up2 (up2 I31 44 2 (nI 1)) 44 3 (nI 16)) 44 8 (nI 11264)), J, (up2 (up2 (up2 (up2 (up2 (up2 (up2 (up2 (up2 (up2 (up2 (up2 (up2 (up2 (up2 (up2 (up2 (up2 (fun a b => if a = 45 then (if b < 11 then some (45 + 1 + b) else none) else (up2 (up2 (up2 (up2 (up2 (RLd 27 (up2 (RLd 14 (up2 (RLd 1 R) 0 0 (some 1))) 0 1 (some 14))) 0 2 (some 27)) 0 4 (some 40)) 41 0 (some 42)) 0 6 (some 41)) 0 7 (some 43)) a b) 44 0 (some 45)) 44 1 (some 57)) 44 4 (some 58)) 44 5 (some 59)) 44 6 (some 60)) 0 8 (some 44)) 61 0 (some 62)) 61 1 (some 63)) 61 3 (some 64)) 61 4 (some 65)) 61 5 (some 66)) 0 9 (some 61)) 0 10 (some 67)) 68 0 (some 69)) 43 0 (some 68)) 70 0 (some 71)) 43 1 (some 70)) 72 0 (some 73))) _
  refine zV_aastore (q' := 72) 2 dX6_init_123 rfl rfl rfl rfl rfl (by decide) rfl (by decide) (by decide) ?_
  refine zV_iinc (y := (nI 3)) (lv' := [(0, .ref 0), (1, .int (nI 3))]) dX6_init_124 rfl 1 rfl (rfl) (by decide) rfl ?_
  refine zV_goto (tgt := 106) dX6_init_127 rfl ?_
  refine zV_iload_n dX6_init_106 rfl 1 rfl rfl ?_
  refine zV_iconst (v := (nI 4)) dX6_init_107 rfl rfl ?_
  refine zN_icmp_ge (tgt := 130) dX6_init_108 rfl rfl (by decide) (by decide) (fun z => absurd z (by decide)) (fun _ => ?_)
  refine zV_aload_n dX6_init_111 rfl 0 rfl rfl ?_
  refine zV_getr (q' := 43) 7 dX6_init_112 rfl fl_RX6_43 rfl (by decide) rfl rfl ?_
  refine zV_iload_n dX6_init_115 rfl 1 rfl rfl ?_
  refine zV_new (ci := 4) dX6_init_116 rfl ⟨tw129, tw205, tw8⟩ rfl (by decide) (gn_R (q := 43) (k := 2) (v := some 72) gnS2 (by decide)) (by decide) ⟨by decide, by decide⟩ ?_
  have gn75 := gn_le (gn_R (q := 43) (k := 2) (v := some 72) gnS2 (by decide)) (show 74 ≤ 75 by decide)
  show zV G (eX6_init (g_rmc 4 75 2893)) (74, 2853) 119 [(0, .ref 0), (1, .int (nI 3))] [.ref 74, .int (nI 3), .ref 43] (sh0.take 75, (up2 (up2 (up2 I31 44 2 (nI 1)) 44 3 (nI 16)) 44 8 (nI 11264)), J, (up2 (up2 (up2 (up2 (up2 (up2 (up2 (up2 (up2 (up2 (up2 (up2 (up2 (up2 (up2 (up2 (up2 (up2 (up2 (fun a b => if a = 45 then (if b < 11 then some (45 + 1 + b) else none) else (up2 (up2 (up2 (up2 (up2 (RLd 27 (up2 (RLd 14 (up2 (RLd 1 R) 0 0 (some 1))) 0 1 (some 14))) 0 2 (some 27)) 0 4 (some 40)) 41 0 (some 42)) 0 6 (some 41)) 0 7 (some 43)) a b) 44 0 (some 45)) 44 1 (some 57)) 44 4 (some 58)) 44 5 (some 59)) 44 6 (some 60)) 0 8 (some 44)) 61 0 (some 62)) 61 1 (some 63)) 61 3 (some 64)) 61 4 (some 65)) 61 5 (some 66)) 0 9 (some 61)) 0 10 (some 67)) 68 0 (some 69)) 43 0 (some 68)) 70 0 (some 71)) 43 1 (some 70)) 72 0 (some 73)) 43 2 (some 72))) _
  refine zV_dup dX6_init_119 rfl rfl ?_
  refine zV_callIN (E' := eX4_init (g_rmc 1 1 40)) (av := []) (st := [.ref 74, .int (nI 3), .ref 43]) (b := 74) dX6_init_120 rfl (k_RX6_64 _) rfl ⟨by decide, by decide⟩ ⟨by decide, by decide⟩ (Or.inr (fun r M q => by obtain ⟨_, e⟩ := q; rw [e]; show (sh0.take 75).length + 1 ≤ (sh0.take 76).length; decide)) rfl (Nat.le_of_ble_eq_true rfl) (n_sheet3 (fun _ => (gn_at (gn_R (q := 43) (k := 2) (v := some 72) gnS2 (by decide)) _)) gn75) (fun r120 M120 z => ?_)
  obtain ⟨rfl, rfl⟩ := z
  have gnS3 := gn_le (gn_R (q := 74) (k := 0) (v := some 75) gn75 (by decide)) (show 75 ≤ 76 by decide)
  show zV G (eX6_init (g_rmc 4 75 2893)) (75, 2893) 123 [(0, .ref 0), (1, .int (nI 3))] [.ref 74, .int (nI 3), .ref 43] (sh0.take 76, (up2 (up2 (up2 I31 44 2 (nI 1)) 44 3 (nI 16)) 44 8 (nI 11264)), J, (up2 (up2 (up2 (up2 (up2 (up2 (up2 (up2 (up2 (up2 (up2 (up2 (up2 (up2 (up2 (up2 (up2 (up2 (up2 (up2 (fun a b => if a = 45 then (if b < 11 then some (45 + 1 + b) else none) else (up2 (up2 (up2 (up2 (up2 (RLd 27 (up2 (RLd 14 (up2 (RLd 1 R) 0 0 (some 1))) 0 1 (some 14))) 0 2 (some 27)) 0 4 (some 40)) 41 0 (some 42)) 0 6 (some 41)) 0 7 (some 43)) a b) 44 0 (some 45)) 44 1 (some 57)) 44 4 (some 58)) 44 5 (some 59)) 44 6 (some 60)) 0 8 (some 44)) 61 0 (some 62)) 61 1 (some 63)) 61 3 (some 64)) 61 4 (some 65)) 61 5 (some 66)) 0 9 (some 61)) 0 10 (some 67)) 68 0 (some 69)) 43 0 (some 68)) 70 0 (some 71)) 43 1 (some 70)) 72 0 (some 73)) 43 2 (some 72)) 74 0 (some 75))) _
  refine zV_aastore (q' := 74) 3 dX6_init_123 rfl rfl rfl rfl rfl (by decide) rfl (by decide) (by decide) ?_
  refine zV_iinc (y := (nI 4)) (lv' := [(0, .ref 0), (1, .int (nI 4))]) dX6_init_124 rfl 1 rfl (rfl) (by decide) rfl ?_
  refine zV_goto (tgt := 106) dX6_init_127 rfl ?_
  refine zV_iload_n dX6_init_106 rfl 1 rfl rfl ?_
  refine zV_iconst (v := (nI 4)) dX6_init_107 rfl rfl ?_
  refine zN_icmp_ge (tgt := 130) dX6_init_108 rfl rfl (by decide) (by decide) (fun _ => ?_) (fun z => absurd z (by decide))
  exact zV_return dX6_init_130 rfl (⟨_, rfl, rfl, (gn_R (q := 43) (k := 3) (v := some 74) gnS3 (by decide)), by rw [up2_ni (by decide), up2_ni (by decide), up2_ni (by decide), hF31 1 (by decide) (by decide), hF20 1 (by decide) (by decide)]; exact hA9, fun k hk => (by rw [up2_ni (by decide), up2_ni (by decide), up2_ni (by decide), hF31 1 (by decide) (by decide), hF20 1 (by decide) (by decide), hB9 k hk]; exact hz0 1 k), fun s hs => (by rw [up2_ni (by decide), up2_ni (by decide), up2_ni (by decide), hF31 3 (by decide) (by decide), hF20 3 (by decide) (by decide)]; exact hC9 s hs), fun i k h1 h2 h3 => (by rw [up2_ni (by omega), up2_ni (by omega), up2_ni (by omega), hF31 i (by omega) (by omega), hF20 i (by omega) (by omega), hF9 i (by omega) (by omega)]; exact hz0 i _)⟩)
