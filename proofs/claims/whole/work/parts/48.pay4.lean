/-! cost, given, back: both classes -/
theorem fr3.sc {I I' : Nat → Nat → Int32} (h : fr3 I I') : scM I I' := ⟨fun i a _ _ _ _ _ => h.1 i a, h.2 3 (by decide) (by decide) (by decide), h.2 10 (by decide) (by decide) (by decide)⟩
set_option maxRecDepth 100000 in
theorem c_sp0 {G : mG} {I : Nat → Nat → Int32} {J : Nat → Nat → Int64} {t : Nat} {x y z : Int32} (h : ¬ twoP x y) : zC G yX6_seekPayment (eX6_seekPayment (g_rmv 5)) [.ref 0, .int x, .int y, .int z] (mm I J t) (fun r M => r = some (.int (-1000001)) ∧ M = mm I J t) := by
  refine zC_of (by decide +kernel) rfl (by decide) (Nat.le_of_ble_eq_true rfl) ?_
  show zV G (eX6_seekPayment (g_rmv 5)) (0, 0) 0 [(0, .ref 0), (1, .int x), (2, .int y), (3, .int z)] [] (mm I J t) _
  refine zV_iload_n dX6_seekPayment_0 rfl 1 rfl rfl ?_
  refine zV_iload_n dX6_seekPayment_1 rfl 2 rfl rfl ?_
  refine zV_callS (E' := eX6_areTwoPurses (g_rmv 2)) (av := [.int x, .int y]) (st := []) dX6_seekPayment_2 rfl (k_RX6_142 _) rfl ⟨by decide, by decide⟩ ⟨by decide, by decide⟩ (Or.inl rfl) rfl (Nat.le_of_ble_eq_true rfl) (c_two (x := x) (y := y)) (fun r2 M2 z => ?_)
  obtain ⟨rfl, rfl⟩ := z
  show zV G (eX6_seekPayment (g_rmv 5)) (0, 0) 5 [(0, .ref 0), (1, .int x), (2, .int y), (3, .int z)] [.int (b2 (twoP x y))] (mm I J t) _
  refine zB_if_eq (tgt := 18) dX6_seekPayment_5 rfl rfl  (fun _ => ?_) (fun z => absurd z h)
  refine zV_ldc (v := (-1000001)) dX6_seekPayment_18 rfl tw264 ?_
  exact zV_ireturn dX6_seekPayment_20 rfl rfl (⟨rfl, rfl⟩)

set_option maxRecDepth 100000 in
theorem c_sp1 {G : mG} {I : Nat → Nat → Int32} {J : Nat → Nat → Int64} {t : Nat} {x y z : Int32} (h : twoP x y) (h2 : ¬ inR z 999) : zC G yX6_seekPayment (eX6_seekPayment (g_rmv 5)) [.ref 0, .int x, .int y, .int z] (mm I J t) (fun r M => r = some (.int (-1000001)) ∧ M = mm I J t) := by
  refine zC_of (by decide +kernel) rfl (by decide) (Nat.le_of_ble_eq_true rfl) ?_
  show zV G (eX6_seekPayment (g_rmv 5)) (0, 0) 0 [(0, .ref 0), (1, .int x), (2, .int y), (3, .int z)] [] (mm I J t) _
  refine zV_iload_n dX6_seekPayment_0 rfl 1 rfl rfl ?_
  refine zV_iload_n dX6_seekPayment_1 rfl 2 rfl rfl ?_
  refine zV_callS (E' := eX6_areTwoPurses (g_rmv 2)) (av := [.int x, .int y]) (st := []) dX6_seekPayment_2 rfl (k_RX6_142 _) rfl ⟨by decide, by decide⟩ ⟨by decide, by decide⟩ (Or.inl rfl) rfl (Nat.le_of_ble_eq_true rfl) (c_two (x := x) (y := y)) (fun r2 M2 z => ?_)
  obtain ⟨rfl, rfl⟩ := z
  show zV G (eX6_seekPayment (g_rmv 5)) (0, 0) 5 [(0, .ref 0), (1, .int x), (2, .int y), (3, .int z)] [.int (b2 (twoP x y))] (mm I J t) _
  refine zB_if_eq (tgt := 18) dX6_seekPayment_5 rfl rfl  (fun z => absurd z (fun z => z h)) (fun _ => ?_)
  refine zV_iload_n dX6_seekPayment_8 rfl 3 rfl rfl ?_
  refine zV_sipush (v := (nI 999)) dX6_seekPayment_9 rfl rfl ?_
  refine zV_callS (E' := eX6_isWithin (g_rmv 0)) (av := [.int z, .int (nI 999)]) (st := []) dX6_seekPayment_12 rfl (k_RX6_65 _) rfl ⟨by decide, by decide⟩ ⟨by decide, by decide⟩ (Or.inl rfl) rfl (Nat.le_of_ble_eq_true rfl) (c_isWithin (x := z) (y := (nI 999))) (fun r12 M12 z => ?_)
  obtain ⟨rfl, rfl⟩ := z
  show zV G (eX6_seekPayment (g_rmv 5)) (0, 0) 15 [(0, .ref 0), (1, .int x), (2, .int y), (3, .int z)] [.int (b2 (0 ≤ z ∧ z ≤ (nI 999)))] (mm I J t) _
  refine zB_if_ne (tgt := 21) dX6_seekPayment_15 rfl rfl  (fun z => absurd z h2) (fun _ => ?_)
  refine zV_ldc (v := (-1000001)) dX6_seekPayment_18 rfl tw264 ?_
  exact zV_ireturn dX6_seekPayment_20 rfl rfl (⟨rfl, rfl⟩)

set_option maxRecDepth 100000 in
theorem c_sp3 {G : mG} {I : Nat → Nat → Int32} {J : Nat → Nat → Int64} {t : Nat} {B : Nat} {S : aS} (hC : InvC I S) (hw : wfS B S) {p q v : Nat} (hp : p < 4) (hq : q < 4) (hpq : p ≠ q) (hv : v ≤ 999) (eo : ld_best S.1 p q v = none) : zC G yX6_seekPayment (eX6_seekPayment (g_rmv 5)) [.ref 0, .int (nI p), .int (nI q), .int (nI v)] (mm I J t) (fun r M => ∃ I', r = some (.int (-1000004)) ∧ M = mm I' J t ∧ ∀ i, (i < 61 ∨ 66 < i) → I' i = I i) := by
  refine zC_of (by decide +kernel) rfl (by decide) (Nat.le_of_ble_eq_true rfl) ?_
  show zV G (eX6_seekPayment (g_rmv 5)) (0, 0) 0 [(0, .ref 0), (1, .int (nI p)), (2, .int (nI q)), (3, .int (nI v))] [] (mm I J t) _
  refine zV_iload_n dX6_seekPayment_0 rfl 1 rfl rfl ?_
  refine zV_iload_n dX6_seekPayment_1 rfl 2 rfl rfl ?_
  refine zV_callS (E' := eX6_areTwoPurses (g_rmv 2)) (av := [.int (nI p), .int (nI q)]) (st := []) dX6_seekPayment_2 rfl (k_RX6_142 _) rfl ⟨by decide, by decide⟩ ⟨by decide, by decide⟩ (Or.inl rfl) rfl (Nat.le_of_ble_eq_true rfl) (c_two (x := (nI p)) (y := (nI q))) (fun r2 M2 z => ?_)
  obtain ⟨rfl, rfl⟩ := z
  show zV G (eX6_seekPayment (g_rmv 5)) (0, 0) 5 [(0, .ref 0), (1, .int (nI p)), (2, .int (nI q)), (3, .int (nI v))] [.int (b2 (twoP (nI p) (nI q)))] (mm I J t) _
  refine zB_if_eq (tgt := 18) dX6_seekPayment_5 rfl rfl  (fun z => absurd z (fun z => z (twoP_mk (by omega) (by omega) hpq))) (fun _ => ?_)
  refine zV_iload_n dX6_seekPayment_8 rfl 3 rfl rfl ?_
  refine zV_sipush (v := (nI 999)) dX6_seekPayment_9 rfl rfl ?_
  refine zV_callS (E' := eX6_isWithin (g_rmv 0)) (av := [.int (nI v), .int (nI 999)]) (st := []) dX6_seekPayment_12 rfl (k_RX6_65 _) rfl ⟨by decide, by decide⟩ ⟨by decide, by decide⟩ (Or.inl rfl) rfl (Nat.le_of_ble_eq_true rfl) (c_isWithin (x := (nI v)) (y := (nI 999))) (fun r12 M12 z => ?_)
  obtain ⟨rfl, rfl⟩ := z
  show zV G (eX6_seekPayment (g_rmv 5)) (0, 0) 15 [(0, .ref 0), (1, .int (nI p)), (2, .int (nI q)), (3, .int (nI v))] [.int (b2 (0 ≤ (nI v) ∧ (nI v) ≤ (nI 999)))] (mm I J t) _
  refine zB_if_ne (tgt := 21) dX6_seekPayment_15 rfl rfl  (fun _ => ?_) (fun z => absurd z (fun z => z ⟨nI_pos' (by omega), nI_le (by omega) (by decide)⟩))
  refine zV_aload_n dX6_seekPayment_21 rfl 0 rfl rfl ?_
  refine zV_getr (q' := 61) 9 dX6_seekPayment_22 rfl fl_RX6_57 rfl (by decide) rfl rfl ?_
  refine zV_aload_n dX6_seekPayment_25 rfl 0 rfl rfl ?_
  refine zV_getr (q' := 1) 0 dX6_seekPayment_26 rfl fl_RX6_12 rfl (by decide) rfl rfl ?_
  refine zV_iload_n dX6_seekPayment_29 rfl 1 rfl rfl ?_
  refine zV_iload_n dX6_seekPayment_30 rfl 2 rfl rfl ?_
  refine zV_iload_n dX6_seekPayment_31 rfl 3 rfl rfl ?_
  refine zV_callV (E' := eX5_findPayment (g_rmv 4)) (av := [.ref 1, .int (nI p), .int (nI q), .int (nI v)]) (st := []) (b := 61) dX6_seekPayment_32 rfl (k_RX6_294 _) rfl ⟨by decide, by decide⟩ ⟨by decide, by decide⟩ (Or.inl rfl) rfl (Nat.le_of_ble_eq_true rfl) rfl rfl rfl (c_findPayment (p := p) (q := q) (v := v) (Or.inl rfl) hC.1 hw.1 hp hq hpq (by omega)) (fun r32 M32 z => ?_)
  obtain ⟨I32, rfl, rfl, hF32, hB32⟩ := z
  rw [eo]
  show zV G (eX6_seekPayment (g_rmv 5)) (0, 0) 35 [(0, .ref 0), (1, .int (nI p)), (2, .int (nI q)), (3, .int (nI v))] [.int (nI 0)] (mm I32 J t) _
  refine zN_if_eq (tgt := 42) dX6_seekPayment_35 rfl rfl (by decide) (fun _ => ?_) (fun z => absurd z (by decide))
  refine zV_ldc (v := (-1000004)) dX6_seekPayment_42 rfl tw424 ?_
  exact zV_ireturn dX6_seekPayment_44 rfl rfl (⟨_, rfl, rfl, hF32⟩)

set_option maxRecDepth 100000 in
theorem c_spF {G : mG} {I : Nat → Nat → Int32} {J : Nat → Nat → Int64} {t : Nat} {B : Nat} {S : aS} (hC : InvC I S) (hw : wfS B S) {p q v : Nat} (hp : p < 4) (hq : q < 4) (hpq : p ≠ q) (hv : v ≤ 999) {bb : Nat} (eo : ld_best S.1 p q v = some bb) : zC G yX6_seekPayment (eX6_seekPayment (g_rmv 5)) [.ref 0, .int (nI p), .int (nI q), .int (nI v)] (mm I J t) (fun r M => ∃ I', r = some (.int (nI 0)) ∧ M = mm I' J t ∧ (∀ i, (i < 61 ∨ 66 < i) → I' i = I i) ∧ I' 61 6 = nI (gv S.1 p bb) ∧ I' 61 7 = nI (gv S.1 q bb) ∧ I' 61 8 = cs S.1 p q bb) := by
  refine zC_of (by decide +kernel) rfl (by decide) (Nat.le_of_ble_eq_true rfl) ?_
  show zV G (eX6_seekPayment (g_rmv 5)) (0, 0) 0 [(0, .ref 0), (1, .int (nI p)), (2, .int (nI q)), (3, .int (nI v))] [] (mm I J t) _
  refine zV_iload_n dX6_seekPayment_0 rfl 1 rfl rfl ?_
  refine zV_iload_n dX6_seekPayment_1 rfl 2 rfl rfl ?_
  refine zV_callS (E' := eX6_areTwoPurses (g_rmv 2)) (av := [.int (nI p), .int (nI q)]) (st := []) dX6_seekPayment_2 rfl (k_RX6_142 _) rfl ⟨by decide, by decide⟩ ⟨by decide, by decide⟩ (Or.inl rfl) rfl (Nat.le_of_ble_eq_true rfl) (c_two (x := (nI p)) (y := (nI q))) (fun r2 M2 z => ?_)
  obtain ⟨rfl, rfl⟩ := z
  show zV G (eX6_seekPayment (g_rmv 5)) (0, 0) 5 [(0, .ref 0), (1, .int (nI p)), (2, .int (nI q)), (3, .int (nI v))] [.int (b2 (twoP (nI p) (nI q)))] (mm I J t) _
  refine zB_if_eq (tgt := 18) dX6_seekPayment_5 rfl rfl  (fun z => absurd z (fun z => z (twoP_mk (by omega) (by omega) hpq))) (fun _ => ?_)
  refine zV_iload_n dX6_seekPayment_8 rfl 3 rfl rfl ?_
  refine zV_sipush (v := (nI 999)) dX6_seekPayment_9 rfl rfl ?_
  refine zV_callS (E' := eX6_isWithin (g_rmv 0)) (av := [.int (nI v), .int (nI 999)]) (st := []) dX6_seekPayment_12 rfl (k_RX6_65 _) rfl ⟨by decide, by decide⟩ ⟨by decide, by decide⟩ (Or.inl rfl) rfl (Nat.le_of_ble_eq_true rfl) (c_isWithin (x := (nI v)) (y := (nI 999))) (fun r12 M12 z => ?_)
  obtain ⟨rfl, rfl⟩ := z
  show zV G (eX6_seekPayment (g_rmv 5)) (0, 0) 15 [(0, .ref 0), (1, .int (nI p)), (2, .int (nI q)), (3, .int (nI v))] [.int (b2 (0 ≤ (nI v) ∧ (nI v) ≤ (nI 999)))] (mm I J t) _
  refine zB_if_ne (tgt := 21) dX6_seekPayment_15 rfl rfl  (fun _ => ?_) (fun z => absurd z (fun z => z ⟨nI_pos' (by omega), nI_le (by omega) (by decide)⟩))
  refine zV_aload_n dX6_seekPayment_21 rfl 0 rfl rfl ?_
  refine zV_getr (q' := 61) 9 dX6_seekPayment_22 rfl fl_RX6_57 rfl (by decide) rfl rfl ?_
  refine zV_aload_n dX6_seekPayment_25 rfl 0 rfl rfl ?_
  refine zV_getr (q' := 1) 0 dX6_seekPayment_26 rfl fl_RX6_12 rfl (by decide) rfl rfl ?_
  refine zV_iload_n dX6_seekPayment_29 rfl 1 rfl rfl ?_
  refine zV_iload_n dX6_seekPayment_30 rfl 2 rfl rfl ?_
  refine zV_iload_n dX6_seekPayment_31 rfl 3 rfl rfl ?_
  refine zV_callV (E' := eX5_findPayment (g_rmv 4)) (av := [.ref 1, .int (nI p), .int (nI q), .int (nI v)]) (st := []) (b := 61) dX6_seekPayment_32 rfl (k_RX6_294 _) rfl ⟨by decide, by decide⟩ ⟨by decide, by decide⟩ (Or.inl rfl) rfl (Nat.le_of_ble_eq_true rfl) rfl rfl rfl (c_findPayment (p := p) (q := q) (v := v) (Or.inl rfl) hC.1 hw.1 hp hq hpq (by omega)) (fun r32 M32 z => ?_)
  obtain ⟨I32, rfl, rfl, hF32, hB32⟩ := z
  rw [eo]
  show zV G (eX6_seekPayment (g_rmv 5)) (0, 0) 35 [(0, .ref 0), (1, .int (nI p)), (2, .int (nI q)), (3, .int (nI v))] [.int (nI 1)] (mm I32 J t) _
  refine zN_if_eq (tgt := 42) dX6_seekPayment_35 rfl rfl (by decide) (fun z => absurd z (by decide)) (fun _ => ?_)
  refine zV_iconst (v := (nI 0)) dX6_seekPayment_38 rfl rfl ?_
  refine zV_goto (tgt := 44) dX6_seekPayment_39 rfl ?_
  exact zV_ireturn dX6_seekPayment_44 rfl rfl (⟨_, rfl, rfl, hF32, hB32 bb eo⟩)

set_option maxRecDepth 100000 in
theorem p_cost {G : mG} {I : Nat → Nat → Int32} {J : Nat → Nat → Int64} {t : Nat} {B : Nat} {S : aS} (hC : InvC I S) (hw : wfS B S) {x y z : Int32} : zC G yX6_cost (eX6_cost (g_rmv 6)) [.ref 0, .int x, .int y, .int z] (mm I J t) (fun r M => PC I (op_cost S x y z) r M) := by
  refine zC_of (by decide +kernel) rfl (by decide) (Nat.le_of_ble_eq_true rfl) ?_
  have n10 := hw.1.1
  show zV G (eX6_cost (g_rmv 6)) (0, 0) 0 [(0, .ref 0), (1, .int x), (2, .int y), (3, .int z)] [] (mm I J t) _
  by_cases h0 : twoP x y
  · by_cases h1 : inR z 999
    · obtain ⟨p, q, hp, hq, hpq, rfl, rfl⟩ := z_two h0
      obtain ⟨v, hv, rfl⟩ := (inR_iff (by decide)).mp h1
      cases eo : ld_best S.1 p q v with
      | none =>
        show zV G (eX6_cost (g_rmv 6)) (0, 0) 0 [(0, .ref 0), (1, .int (nI p)), (2, .int (nI q)), (3, .int (nI v))] [] (mm I J t) _
        refine zV_aload_n dX6_cost_0 rfl 0 rfl rfl ?_
        refine zV_iload_n dX6_cost_1 rfl 1 rfl rfl ?_
        refine zV_iload_n dX6_cost_2 rfl 2 rfl rfl ?_
        refine zV_iload_n dX6_cost_3 rfl 3 rfl rfl ?_
        refine zV_callV (E' := eX6_seekPayment (g_rmv 5)) (av := [.int (nI p), .int (nI q), .int (nI v)]) (st := []) (b := 0) dX6_cost_4 rfl (k_RX6_168 _) rfl ⟨by decide, by decide⟩ ⟨by decide, by decide⟩ (Or.inl rfl) rfl (Nat.le_of_ble_eq_true rfl) rfl rfl rfl (c_sp3 hC hw hp hq hpq hv eo) (fun r4 M4 z => ?_)
        obtain ⟨I4, rfl, rfl, hF4⟩ := z
        show zV G (eX6_cost (g_rmv 6)) (0, 0) 7 [(0, .ref 0), (1, .int (nI p)), (2, .int (nI q)), (3, .int (nI v))] [.int (-1000004)] (mm I4 J t) _
        refine zV_istore (lv' := [(0, .ref 0), (1, .int (nI p)), (2, .int (nI q)), (3, .int (nI v)), (4, .int (-1000004))]) dX6_cost_7 rfl (by decide) rfl ?_
        refine zV_iload dX6_cost_9 rfl 4 rfl ?_
        refine zV_if_ne (tgt := 24) dX6_cost_11 rfl rfl  (fun _ => ?_) (fun z => absurd z (by decide))
        refine zV_aload_n dX6_cost_24 rfl 0 rfl rfl ?_
        refine zV_iload dX6_cost_25 rfl 4 rfl ?_
        refine zV_callV (E' := eX6_tell (g_rmv 1)) (av := [.int (-1000004)]) (st := []) (b := 0) dX6_cost_27 rfl (k_RX6_70 _) rfl ⟨by decide, by decide⟩ ⟨by decide, by decide⟩ (Or.inl rfl) rfl (Nat.le_of_ble_eq_true rfl) rfl rfl rfl (c_tell (w := 3) (by decide) (by decide)) (fun r27 M27 z => ?_)
        obtain ⟨rfl, rfl⟩ := z
        show zV G (eX6_cost (g_rmv 6)) (0, 0) 30 [(0, .ref 0), (1, .int (nI p)), (2, .int (nI q)), (3, .int (nI v)), (4, .int (-1000004))] [.int (fdg 3)] (mm (up2 I4 67 3 (I4 67 3 + nI 1)) J t) _
        exact zV_ireturn dX6_cost_30 rfl rfl (PC.tell (hC.mv hw (fun i a _ => hF4 i (by unfold scr at a; omega))) hw (by unfold op_cost; rw [if_pos h0, if_pos h1, tn_nI (show p < 2 ^ 31 by omega), tn_nI (show q < 2 ^ 31 by omega), tn_nI (show v < 2 ^ 31 by omega), eo]) (fun i hi => hF4 i (by omega)))
      | some bb =>
        have g1 := gv_lt n10 p bb
        have g2 := gv_lt n10 q bb
        show zV G (eX6_cost (g_rmv 6)) (0, 0) 0 [(0, .ref 0), (1, .int (nI p)), (2, .int (nI q)), (3, .int (nI v))] [] (mm I J t) _
        refine zV_aload_n dX6_cost_0 rfl 0 rfl rfl ?_
        refine zV_iload_n dX6_cost_1 rfl 1 rfl rfl ?_
        refine zV_iload_n dX6_cost_2 rfl 2 rfl rfl ?_
        refine zV_iload_n dX6_cost_3 rfl 3 rfl rfl ?_
        refine zV_callV (E' := eX6_seekPayment (g_rmv 5)) (av := [.int (nI p), .int (nI q), .int (nI v)]) (st := []) (b := 0) dX6_cost_4 rfl (k_RX6_168 _) rfl ⟨by decide, by decide⟩ ⟨by decide, by decide⟩ (Or.inl rfl) rfl (Nat.le_of_ble_eq_true rfl) rfl rfl rfl (c_spF hC hw hp hq hpq hv eo) (fun r4 M4 z => ?_)
        obtain ⟨I4, rfl, rfl, hF4, hG4, hK4, hC4⟩ := z
        show zV G (eX6_cost (g_rmv 6)) (0, 0) 7 [(0, .ref 0), (1, .int (nI p)), (2, .int (nI q)), (3, .int (nI v))] [.int (nI 0)] (mm I4 J t) _
        refine zV_istore (lv' := [(0, .ref 0), (1, .int (nI p)), (2, .int (nI q)), (3, .int (nI v)), (4, .int (nI 0))]) dX6_cost_7 rfl (by decide) rfl ?_
        refine zV_iload dX6_cost_9 rfl 4 rfl ?_
        refine zN_if_ne (tgt := 24) dX6_cost_11 rfl rfl (by decide) (fun z => absurd z (by decide)) (fun _ => ?_)
        refine zV_aload_n dX6_cost_14 rfl 0 rfl rfl ?_
        refine zV_getr (q' := 61) 9 dX6_cost_15 rfl fl_RX6_57 rfl (by decide) rfl rfl ?_
        refine zV_getI (x := (cs S.1 p q bb)) 8 dX6_cost_18 rfl fl_RX6_171 rfl (by decide) rfl hC4 ?_
        refine zV_goto (tgt := 30) dX6_cost_21 rfl ?_
        exact zV_ireturn dX6_cost_30 rfl rfl (PC.same hC hw (by unfold op_cost; rw [if_pos h0, if_pos h1, tn_nI (show p < 2 ^ 31 by omega), tn_nI (show q < 2 ^ 31 by omega), tn_nI (show v < 2 ^ 31 by omega), eo]) (fun i hi => hF4 i (by unfold scr at hi; omega)))
    · show zV G (eX6_cost (g_rmv 6)) (0, 0) 0 [(0, .ref 0), (1, .int x), (2, .int y), (3, .int z)] [] (mm I J t) _
      refine zV_aload_n dX6_cost_0 rfl 0 rfl rfl ?_
      refine zV_iload_n dX6_cost_1 rfl 1 rfl rfl ?_
      refine zV_iload_n dX6_cost_2 rfl 2 rfl rfl ?_
      refine zV_iload_n dX6_cost_3 rfl 3 rfl rfl ?_
      refine zV_callV (E' := eX6_seekPayment (g_rmv 5)) (av := [.int x, .int y, .int z]) (st := []) (b := 0) dX6_cost_4 rfl (k_RX6_168 _) rfl ⟨by decide, by decide⟩ ⟨by decide, by decide⟩ (Or.inl rfl) rfl (Nat.le_of_ble_eq_true rfl) rfl rfl rfl (c_sp1 h0 h1) (fun r4 M4 z => ?_)
      obtain ⟨rfl, rfl⟩ := z
      show zV G (eX6_cost (g_rmv 6)) (0, 0) 7 [(0, .ref 0), (1, .int x), (2, .int y), (3, .int z)] [.int (-1000001)] (mm I J t) _
      refine zV_istore (lv' := [(0, .ref 0), (1, .int x), (2, .int y), (3, .int z), (4, .int (-1000001))]) dX6_cost_7 rfl (by decide) rfl ?_
      refine zV_iload dX6_cost_9 rfl 4 rfl ?_
      refine zV_if_ne (tgt := 24) dX6_cost_11 rfl rfl  (fun _ => ?_) (fun z => absurd z (by decide))
      refine zV_aload_n dX6_cost_24 rfl 0 rfl rfl ?_
      refine zV_iload dX6_cost_25 rfl 4 rfl ?_
      refine zV_callV (E' := eX6_tell (g_rmv 1)) (av := [.int (-1000001)]) (st := []) (b := 0) dX6_cost_27 rfl (k_RX6_70 _) rfl ⟨by decide, by decide⟩ ⟨by decide, by decide⟩ (Or.inl rfl) rfl (Nat.le_of_ble_eq_true rfl) rfl rfl rfl (c_tell (w := 0) (by decide) (by decide)) (fun r27 M27 z => ?_)
      obtain ⟨rfl, rfl⟩ := z
      show zV G (eX6_cost (g_rmv 6)) (0, 0) 30 [(0, .ref 0), (1, .int x), (2, .int y), (3, .int z), (4, .int (-1000001))] [.int (fdg 0)] (mm (up2 I 67 0 (I 67 0 + nI 1)) J t) _
      exact zV_ireturn dX6_cost_30 rfl rfl (PC.tell hC hw (by unfold op_cost; rw [if_pos h0, if_neg h1]) (fun _ _ => rfl))
  · show zV G (eX6_cost (g_rmv 6)) (0, 0) 0 [(0, .ref 0), (1, .int x), (2, .int y), (3, .int z)] [] (mm I J t) _
    refine zV_aload_n dX6_cost_0 rfl 0 rfl rfl ?_
    refine zV_iload_n dX6_cost_1 rfl 1 rfl rfl ?_
    refine zV_iload_n dX6_cost_2 rfl 2 rfl rfl ?_
    refine zV_iload_n dX6_cost_3 rfl 3 rfl rfl ?_
    refine zV_callV (E' := eX6_seekPayment (g_rmv 5)) (av := [.int x, .int y, .int z]) (st := []) (b := 0) dX6_cost_4 rfl (k_RX6_168 _) rfl ⟨by decide, by decide⟩ ⟨by decide, by decide⟩ (Or.inl rfl) rfl (Nat.le_of_ble_eq_true rfl) rfl rfl rfl (c_sp0 h0) (fun r4 M4 z => ?_)
    obtain ⟨rfl, rfl⟩ := z
    show zV G (eX6_cost (g_rmv 6)) (0, 0) 7 [(0, .ref 0), (1, .int x), (2, .int y), (3, .int z)] [.int (-1000001)] (mm I J t) _
    refine zV_istore (lv' := [(0, .ref 0), (1, .int x), (2, .int y), (3, .int z), (4, .int (-1000001))]) dX6_cost_7 rfl (by decide) rfl ?_
    refine zV_iload dX6_cost_9 rfl 4 rfl ?_
    refine zV_if_ne (tgt := 24) dX6_cost_11 rfl rfl  (fun _ => ?_) (fun z => absurd z (by decide))
    refine zV_aload_n dX6_cost_24 rfl 0 rfl rfl ?_
    refine zV_iload dX6_cost_25 rfl 4 rfl ?_
    refine zV_callV (E' := eX6_tell (g_rmv 1)) (av := [.int (-1000001)]) (st := []) (b := 0) dX6_cost_27 rfl (k_RX6_70 _) rfl ⟨by decide, by decide⟩ ⟨by decide, by decide⟩ (Or.inl rfl) rfl (Nat.le_of_ble_eq_true rfl) rfl rfl rfl (c_tell (w := 0) (by decide) (by decide)) (fun r27 M27 z => ?_)
    obtain ⟨rfl, rfl⟩ := z
    show zV G (eX6_cost (g_rmv 6)) (0, 0) 30 [(0, .ref 0), (1, .int x), (2, .int y), (3, .int z), (4, .int (-1000001))] [.int (fdg 0)] (mm (up2 I 67 0 (I 67 0 + nI 1)) J t) _
    exact zV_ireturn dX6_cost_30 rfl rfl (PC.tell hC hw (by unfold op_cost; rw [if_neg h0]) (fun _ _ => rfl))

set_option maxRecDepth 100000 in
theorem p_given {G : mG} {I : Nat → Nat → Int32} {J : Nat → Nat → Int64} {t : Nat} {B : Nat} {S : aS} (hC : InvC I S) (hw : wfS B S) {x y z : Int32} : zC G yX6_given (eX6_given (g_rmv 6)) [.ref 0, .int x, .int y, .int z] (mm I J t) (fun r M => PC I (op_given S x y z) r M) := by
  refine zC_of (by decide +kernel) rfl (by decide) (Nat.le_of_ble_eq_true rfl) ?_
  have n10 := hw.1.1
  show zV G (eX6_given (g_rmv 6)) (0, 0) 0 [(0, .ref 0), (1, .int x), (2, .int y), (3, .int z)] [] (mm I J t) _
  by_cases h0 : twoP x y
  · by_cases h1 : inR z 999
    · obtain ⟨p, q, hp, hq, hpq, rfl, rfl⟩ := z_two h0
      obtain ⟨v, hv, rfl⟩ := (inR_iff (by decide)).mp h1
      cases eo : ld_best S.1 p q v with
      | none =>
        show zV G (eX6_given (g_rmv 6)) (0, 0) 0 [(0, .ref 0), (1, .int (nI p)), (2, .int (nI q)), (3, .int (nI v))] [] (mm I J t) _
        refine zV_aload_n dX6_given_0 rfl 0 rfl rfl ?_
        refine zV_iload_n dX6_given_1 rfl 1 rfl rfl ?_
        refine zV_iload_n dX6_given_2 rfl 2 rfl rfl ?_
        refine zV_iload_n dX6_given_3 rfl 3 rfl rfl ?_
        refine zV_callV (E' := eX6_seekPayment (g_rmv 5)) (av := [.int (nI p), .int (nI q), .int (nI v)]) (st := []) (b := 0) dX6_given_4 rfl (k_RX6_168 _) rfl ⟨by decide, by decide⟩ ⟨by decide, by decide⟩ (Or.inl rfl) rfl (Nat.le_of_ble_eq_true rfl) rfl rfl rfl (c_sp3 hC hw hp hq hpq hv eo) (fun r4 M4 z => ?_)
        obtain ⟨I4, rfl, rfl, hF4⟩ := z
        show zV G (eX6_given (g_rmv 6)) (0, 0) 7 [(0, .ref 0), (1, .int (nI p)), (2, .int (nI q)), (3, .int (nI v))] [.int (-1000004)] (mm I4 J t) _
        refine zV_istore (lv' := [(0, .ref 0), (1, .int (nI p)), (2, .int (nI q)), (3, .int (nI v)), (4, .int (-1000004))]) dX6_given_7 rfl (by decide) rfl ?_
        refine zV_iload dX6_given_9 rfl 4 rfl ?_
        refine zV_if_ne (tgt := 24) dX6_given_11 rfl rfl  (fun _ => ?_) (fun z => absurd z (by decide))
        refine zV_aload_n dX6_given_24 rfl 0 rfl rfl ?_
        refine zV_iload dX6_given_25 rfl 4 rfl ?_
        refine zV_callV (E' := eX6_tell (g_rmv 1)) (av := [.int (-1000004)]) (st := []) (b := 0) dX6_given_27 rfl (k_RX6_70 _) rfl ⟨by decide, by decide⟩ ⟨by decide, by decide⟩ (Or.inl rfl) rfl (Nat.le_of_ble_eq_true rfl) rfl rfl rfl (c_tell (w := 3) (by decide) (by decide)) (fun r27 M27 z => ?_)
        obtain ⟨rfl, rfl⟩ := z
        show zV G (eX6_given (g_rmv 6)) (0, 0) 30 [(0, .ref 0), (1, .int (nI p)), (2, .int (nI q)), (3, .int (nI v)), (4, .int (-1000004))] [.int (fdg 3)] (mm (up2 I4 67 3 (I4 67 3 + nI 1)) J t) _
        exact zV_ireturn dX6_given_30 rfl rfl (PC.tell (hC.mv hw (fun i a _ => hF4 i (by unfold scr at a; omega))) hw (by unfold op_given; rw [if_pos h0, if_pos h1, tn_nI (show p < 2 ^ 31 by omega), tn_nI (show q < 2 ^ 31 by omega), tn_nI (show v < 2 ^ 31 by omega), eo]) (fun i hi => hF4 i (by omega)))
      | some bb =>
        have g1 := gv_lt n10 p bb
        have g2 := gv_lt n10 q bb
        show zV G (eX6_given (g_rmv 6)) (0, 0) 0 [(0, .ref 0), (1, .int (nI p)), (2, .int (nI q)), (3, .int (nI v))] [] (mm I J t) _
        refine zV_aload_n dX6_given_0 rfl 0 rfl rfl ?_
        refine zV_iload_n dX6_given_1 rfl 1 rfl rfl ?_
        refine zV_iload_n dX6_given_2 rfl 2 rfl rfl ?_
        refine zV_iload_n dX6_given_3 rfl 3 rfl rfl ?_
        refine zV_callV (E' := eX6_seekPayment (g_rmv 5)) (av := [.int (nI p), .int (nI q), .int (nI v)]) (st := []) (b := 0) dX6_given_4 rfl (k_RX6_168 _) rfl ⟨by decide, by decide⟩ ⟨by decide, by decide⟩ (Or.inl rfl) rfl (Nat.le_of_ble_eq_true rfl) rfl rfl rfl (c_spF hC hw hp hq hpq hv eo) (fun r4 M4 z => ?_)
        obtain ⟨I4, rfl, rfl, hF4, hG4, hK4, hC4⟩ := z
        show zV G (eX6_given (g_rmv 6)) (0, 0) 7 [(0, .ref 0), (1, .int (nI p)), (2, .int (nI q)), (3, .int (nI v))] [.int (nI 0)] (mm I4 J t) _
        refine zV_istore (lv' := [(0, .ref 0), (1, .int (nI p)), (2, .int (nI q)), (3, .int (nI v)), (4, .int (nI 0))]) dX6_given_7 rfl (by decide) rfl ?_
        refine zV_iload dX6_given_9 rfl 4 rfl ?_
        refine zN_if_ne (tgt := 24) dX6_given_11 rfl rfl (by decide) (fun z => absurd z (by decide)) (fun _ => ?_)
        refine zV_aload_n dX6_given_14 rfl 0 rfl rfl ?_
        refine zV_getr (q' := 61) 9 dX6_given_15 rfl fl_RX6_57 rfl (by decide) rfl rfl ?_
        refine zV_getI (x := (nI (gv S.1 p bb))) 6 dX6_given_18 rfl fl_RX6_174 rfl (by decide) rfl hG4 ?_
        refine zV_goto (tgt := 30) dX6_given_21 rfl ?_
        exact zV_ireturn dX6_given_30 rfl rfl (PC.same hC hw (by unfold op_given; rw [if_pos h0, if_pos h1, tn_nI (show p < 2 ^ 31 by omega), tn_nI (show q < 2 ^ 31 by omega), tn_nI (show v < 2 ^ 31 by omega), eo]) (fun i hi => hF4 i (by unfold scr at hi; omega)))
    · show zV G (eX6_given (g_rmv 6)) (0, 0) 0 [(0, .ref 0), (1, .int x), (2, .int y), (3, .int z)] [] (mm I J t) _
      refine zV_aload_n dX6_given_0 rfl 0 rfl rfl ?_
      refine zV_iload_n dX6_given_1 rfl 1 rfl rfl ?_
      refine zV_iload_n dX6_given_2 rfl 2 rfl rfl ?_
      refine zV_iload_n dX6_given_3 rfl 3 rfl rfl ?_
      refine zV_callV (E' := eX6_seekPayment (g_rmv 5)) (av := [.int x, .int y, .int z]) (st := []) (b := 0) dX6_given_4 rfl (k_RX6_168 _) rfl ⟨by decide, by decide⟩ ⟨by decide, by decide⟩ (Or.inl rfl) rfl (Nat.le_of_ble_eq_true rfl) rfl rfl rfl (c_sp1 h0 h1) (fun r4 M4 z => ?_)
      obtain ⟨rfl, rfl⟩ := z
      show zV G (eX6_given (g_rmv 6)) (0, 0) 7 [(0, .ref 0), (1, .int x), (2, .int y), (3, .int z)] [.int (-1000001)] (mm I J t) _
      refine zV_istore (lv' := [(0, .ref 0), (1, .int x), (2, .int y), (3, .int z), (4, .int (-1000001))]) dX6_given_7 rfl (by decide) rfl ?_
      refine zV_iload dX6_given_9 rfl 4 rfl ?_
      refine zV_if_ne (tgt := 24) dX6_given_11 rfl rfl  (fun _ => ?_) (fun z => absurd z (by decide))
      refine zV_aload_n dX6_given_24 rfl 0 rfl rfl ?_
      refine zV_iload dX6_given_25 rfl 4 rfl ?_
      refine zV_callV (E' := eX6_tell (g_rmv 1)) (av := [.int (-1000001)]) (st := []) (b := 0) dX6_given_27 rfl (k_RX6_70 _) rfl ⟨by decide, by decide⟩ ⟨by decide, by decide⟩ (Or.inl rfl) rfl (Nat.le_of_ble_eq_true rfl) rfl rfl rfl (c_tell (w := 0) (by decide) (by decide)) (fun r27 M27 z => ?_)
      obtain ⟨rfl, rfl⟩ := z
      show zV G (eX6_given (g_rmv 6)) (0, 0) 30 [(0, .ref 0), (1, .int x), (2, .int y), (3, .int z), (4, .int (-1000001))] [.int (fdg 0)] (mm (up2 I 67 0 (I 67 0 + nI 1)) J t) _
      exact zV_ireturn dX6_given_30 rfl rfl (PC.tell hC hw (by unfold op_given; rw [if_pos h0, if_neg h1]) (fun _ _ => rfl))
  · show zV G (eX6_given (g_rmv 6)) (0, 0) 0 [(0, .ref 0), (1, .int x), (2, .int y), (3, .int z)] [] (mm I J t) _
    refine zV_aload_n dX6_given_0 rfl 0 rfl rfl ?_
    refine zV_iload_n dX6_given_1 rfl 1 rfl rfl ?_
    refine zV_iload_n dX6_given_2 rfl 2 rfl rfl ?_
    refine zV_iload_n dX6_given_3 rfl 3 rfl rfl ?_
    refine zV_callV (E' := eX6_seekPayment (g_rmv 5)) (av := [.int x, .int y, .int z]) (st := []) (b := 0) dX6_given_4 rfl (k_RX6_168 _) rfl ⟨by decide, by decide⟩ ⟨by decide, by decide⟩ (Or.inl rfl) rfl (Nat.le_of_ble_eq_true rfl) rfl rfl rfl (c_sp0 h0) (fun r4 M4 z => ?_)
    obtain ⟨rfl, rfl⟩ := z
    show zV G (eX6_given (g_rmv 6)) (0, 0) 7 [(0, .ref 0), (1, .int x), (2, .int y), (3, .int z)] [.int (-1000001)] (mm I J t) _
    refine zV_istore (lv' := [(0, .ref 0), (1, .int x), (2, .int y), (3, .int z), (4, .int (-1000001))]) dX6_given_7 rfl (by decide) rfl ?_
    refine zV_iload dX6_given_9 rfl 4 rfl ?_
    refine zV_if_ne (tgt := 24) dX6_given_11 rfl rfl  (fun _ => ?_) (fun z => absurd z (by decide))
    refine zV_aload_n dX6_given_24 rfl 0 rfl rfl ?_
    refine zV_iload dX6_given_25 rfl 4 rfl ?_
    refine zV_callV (E' := eX6_tell (g_rmv 1)) (av := [.int (-1000001)]) (st := []) (b := 0) dX6_given_27 rfl (k_RX6_70 _) rfl ⟨by decide, by decide⟩ ⟨by decide, by decide⟩ (Or.inl rfl) rfl (Nat.le_of_ble_eq_true rfl) rfl rfl rfl (c_tell (w := 0) (by decide) (by decide)) (fun r27 M27 z => ?_)
    obtain ⟨rfl, rfl⟩ := z
    show zV G (eX6_given (g_rmv 6)) (0, 0) 30 [(0, .ref 0), (1, .int x), (2, .int y), (3, .int z), (4, .int (-1000001))] [.int (fdg 0)] (mm (up2 I 67 0 (I 67 0 + nI 1)) J t) _
    exact zV_ireturn dX6_given_30 rfl rfl (PC.tell hC hw (by unfold op_given; rw [if_neg h0]) (fun _ _ => rfl))

set_option maxRecDepth 100000 in
theorem p_back {G : mG} {I : Nat → Nat → Int32} {J : Nat → Nat → Int64} {t : Nat} {B : Nat} {S : aS} (hC : InvC I S) (hw : wfS B S) {x y z : Int32} : zC G yX6_back (eX6_back (g_rmv 6)) [.ref 0, .int x, .int y, .int z] (mm I J t) (fun r M => PC I (op_back S x y z) r M) := by
  refine zC_of (by decide +kernel) rfl (by decide) (Nat.le_of_ble_eq_true rfl) ?_
  have n10 := hw.1.1
  show zV G (eX6_back (g_rmv 6)) (0, 0) 0 [(0, .ref 0), (1, .int x), (2, .int y), (3, .int z)] [] (mm I J t) _
  by_cases h0 : twoP x y
  · by_cases h1 : inR z 999
    · obtain ⟨p, q, hp, hq, hpq, rfl, rfl⟩ := z_two h0
      obtain ⟨v, hv, rfl⟩ := (inR_iff (by decide)).mp h1
      cases eo : ld_best S.1 p q v with
      | none =>
        show zV G (eX6_back (g_rmv 6)) (0, 0) 0 [(0, .ref 0), (1, .int (nI p)), (2, .int (nI q)), (3, .int (nI v))] [] (mm I J t) _
        refine zV_aload_n dX6_back_0 rfl 0 rfl rfl ?_
        refine zV_iload_n dX6_back_1 rfl 1 rfl rfl ?_
        refine zV_iload_n dX6_back_2 rfl 2 rfl rfl ?_
        refine zV_iload_n dX6_back_3 rfl 3 rfl rfl ?_
        refine zV_callV (E' := eX6_seekPayment (g_rmv 5)) (av := [.int (nI p), .int (nI q), .int (nI v)]) (st := []) (b := 0) dX6_back_4 rfl (k_RX6_168 _) rfl ⟨by decide, by decide⟩ ⟨by decide, by decide⟩ (Or.inl rfl) rfl (Nat.le_of_ble_eq_true rfl) rfl rfl rfl (c_sp3 hC hw hp hq hpq hv eo) (fun r4 M4 z => ?_)
        obtain ⟨I4, rfl, rfl, hF4⟩ := z
        show zV G (eX6_back (g_rmv 6)) (0, 0) 7 [(0, .ref 0), (1, .int (nI p)), (2, .int (nI q)), (3, .int (nI v))] [.int (-1000004)] (mm I4 J t) _
        refine zV_istore (lv' := [(0, .ref 0), (1, .int (nI p)), (2, .int (nI q)), (3, .int (nI v)), (4, .int (-1000004))]) dX6_back_7 rfl (by decide) rfl ?_
        refine zV_iload dX6_back_9 rfl 4 rfl ?_
        refine zV_if_ne (tgt := 24) dX6_back_11 rfl rfl  (fun _ => ?_) (fun z => absurd z (by decide))
        refine zV_aload_n dX6_back_24 rfl 0 rfl rfl ?_
        refine zV_iload dX6_back_25 rfl 4 rfl ?_
        refine zV_callV (E' := eX6_tell (g_rmv 1)) (av := [.int (-1000004)]) (st := []) (b := 0) dX6_back_27 rfl (k_RX6_70 _) rfl ⟨by decide, by decide⟩ ⟨by decide, by decide⟩ (Or.inl rfl) rfl (Nat.le_of_ble_eq_true rfl) rfl rfl rfl (c_tell (w := 3) (by decide) (by decide)) (fun r27 M27 z => ?_)
        obtain ⟨rfl, rfl⟩ := z
        show zV G (eX6_back (g_rmv 6)) (0, 0) 30 [(0, .ref 0), (1, .int (nI p)), (2, .int (nI q)), (3, .int (nI v)), (4, .int (-1000004))] [.int (fdg 3)] (mm (up2 I4 67 3 (I4 67 3 + nI 1)) J t) _
        exact zV_ireturn dX6_back_30 rfl rfl (PC.tell (hC.mv hw (fun i a _ => hF4 i (by unfold scr at a; omega))) hw (by unfold op_back; rw [if_pos h0, if_pos h1, tn_nI (show p < 2 ^ 31 by omega), tn_nI (show q < 2 ^ 31 by omega), tn_nI (show v < 2 ^ 31 by omega), eo]) (fun i hi => hF4 i (by omega)))
      | some bb =>
        have g1 := gv_lt n10 p bb
        have g2 := gv_lt n10 q bb
        show zV G (eX6_back (g_rmv 6)) (0, 0) 0 [(0, .ref 0), (1, .int (nI p)), (2, .int (nI q)), (3, .int (nI v))] [] (mm I J t) _
        refine zV_aload_n dX6_back_0 rfl 0 rfl rfl ?_
        refine zV_iload_n dX6_back_1 rfl 1 rfl rfl ?_
        refine zV_iload_n dX6_back_2 rfl 2 rfl rfl ?_
        refine zV_iload_n dX6_back_3 rfl 3 rfl rfl ?_
        refine zV_callV (E' := eX6_seekPayment (g_rmv 5)) (av := [.int (nI p), .int (nI q), .int (nI v)]) (st := []) (b := 0) dX6_back_4 rfl (k_RX6_168 _) rfl ⟨by decide, by decide⟩ ⟨by decide, by decide⟩ (Or.inl rfl) rfl (Nat.le_of_ble_eq_true rfl) rfl rfl rfl (c_spF hC hw hp hq hpq hv eo) (fun r4 M4 z => ?_)
        obtain ⟨I4, rfl, rfl, hF4, hG4, hK4, hC4⟩ := z
        show zV G (eX6_back (g_rmv 6)) (0, 0) 7 [(0, .ref 0), (1, .int (nI p)), (2, .int (nI q)), (3, .int (nI v))] [.int (nI 0)] (mm I4 J t) _
        refine zV_istore (lv' := [(0, .ref 0), (1, .int (nI p)), (2, .int (nI q)), (3, .int (nI v)), (4, .int (nI 0))]) dX6_back_7 rfl (by decide) rfl ?_
        refine zV_iload dX6_back_9 rfl 4 rfl ?_
        refine zN_if_ne (tgt := 24) dX6_back_11 rfl rfl (by decide) (fun z => absurd z (by decide)) (fun _ => ?_)
        refine zV_aload_n dX6_back_14 rfl 0 rfl rfl ?_
        refine zV_getr (q' := 61) 9 dX6_back_15 rfl fl_RX6_57 rfl (by decide) rfl rfl ?_
        refine zV_getI (x := (nI (gv S.1 q bb))) 7 dX6_back_18 rfl fl_RX6_177 rfl (by decide) rfl hK4 ?_
        refine zV_goto (tgt := 30) dX6_back_21 rfl ?_
        exact zV_ireturn dX6_back_30 rfl rfl (PC.same hC hw (by unfold op_back; rw [if_pos h0, if_pos h1, tn_nI (show p < 2 ^ 31 by omega), tn_nI (show q < 2 ^ 31 by omega), tn_nI (show v < 2 ^ 31 by omega), eo]) (fun i hi => hF4 i (by unfold scr at hi; omega)))
    · show zV G (eX6_back (g_rmv 6)) (0, 0) 0 [(0, .ref 0), (1, .int x), (2, .int y), (3, .int z)] [] (mm I J t) _
      refine zV_aload_n dX6_back_0 rfl 0 rfl rfl ?_
      refine zV_iload_n dX6_back_1 rfl 1 rfl rfl ?_
      refine zV_iload_n dX6_back_2 rfl 2 rfl rfl ?_
      refine zV_iload_n dX6_back_3 rfl 3 rfl rfl ?_
      refine zV_callV (E' := eX6_seekPayment (g_rmv 5)) (av := [.int x, .int y, .int z]) (st := []) (b := 0) dX6_back_4 rfl (k_RX6_168 _) rfl ⟨by decide, by decide⟩ ⟨by decide, by decide⟩ (Or.inl rfl) rfl (Nat.le_of_ble_eq_true rfl) rfl rfl rfl (c_sp1 h0 h1) (fun r4 M4 z => ?_)
      obtain ⟨rfl, rfl⟩ := z
      show zV G (eX6_back (g_rmv 6)) (0, 0) 7 [(0, .ref 0), (1, .int x), (2, .int y), (3, .int z)] [.int (-1000001)] (mm I J t) _
      refine zV_istore (lv' := [(0, .ref 0), (1, .int x), (2, .int y), (3, .int z), (4, .int (-1000001))]) dX6_back_7 rfl (by decide) rfl ?_
      refine zV_iload dX6_back_9 rfl 4 rfl ?_
      refine zV_if_ne (tgt := 24) dX6_back_11 rfl rfl  (fun _ => ?_) (fun z => absurd z (by decide))
      refine zV_aload_n dX6_back_24 rfl 0 rfl rfl ?_
      refine zV_iload dX6_back_25 rfl 4 rfl ?_
      refine zV_callV (E' := eX6_tell (g_rmv 1)) (av := [.int (-1000001)]) (st := []) (b := 0) dX6_back_27 rfl (k_RX6_70 _) rfl ⟨by decide, by decide⟩ ⟨by decide, by decide⟩ (Or.inl rfl) rfl (Nat.le_of_ble_eq_true rfl) rfl rfl rfl (c_tell (w := 0) (by decide) (by decide)) (fun r27 M27 z => ?_)
      obtain ⟨rfl, rfl⟩ := z
      show zV G (eX6_back (g_rmv 6)) (0, 0) 30 [(0, .ref 0), (1, .int x), (2, .int y), (3, .int z), (4, .int (-1000001))] [.int (fdg 0)] (mm (up2 I 67 0 (I 67 0 + nI 1)) J t) _
      exact zV_ireturn dX6_back_30 rfl rfl (PC.tell hC hw (by unfold op_back; rw [if_pos h0, if_neg h1]) (fun _ _ => rfl))
  · show zV G (eX6_back (g_rmv 6)) (0, 0) 0 [(0, .ref 0), (1, .int x), (2, .int y), (3, .int z)] [] (mm I J t) _
    refine zV_aload_n dX6_back_0 rfl 0 rfl rfl ?_
    refine zV_iload_n dX6_back_1 rfl 1 rfl rfl ?_
    refine zV_iload_n dX6_back_2 rfl 2 rfl rfl ?_
    refine zV_iload_n dX6_back_3 rfl 3 rfl rfl ?_
    refine zV_callV (E' := eX6_seekPayment (g_rmv 5)) (av := [.int x, .int y, .int z]) (st := []) (b := 0) dX6_back_4 rfl (k_RX6_168 _) rfl ⟨by decide, by decide⟩ ⟨by decide, by decide⟩ (Or.inl rfl) rfl (Nat.le_of_ble_eq_true rfl) rfl rfl rfl (c_sp0 h0) (fun r4 M4 z => ?_)
    obtain ⟨rfl, rfl⟩ := z
    show zV G (eX6_back (g_rmv 6)) (0, 0) 7 [(0, .ref 0), (1, .int x), (2, .int y), (3, .int z)] [.int (-1000001)] (mm I J t) _
    refine zV_istore (lv' := [(0, .ref 0), (1, .int x), (2, .int y), (3, .int z), (4, .int (-1000001))]) dX6_back_7 rfl (by decide) rfl ?_
    refine zV_iload dX6_back_9 rfl 4 rfl ?_
    refine zV_if_ne (tgt := 24) dX6_back_11 rfl rfl  (fun _ => ?_) (fun z => absurd z (by decide))
    refine zV_aload_n dX6_back_24 rfl 0 rfl rfl ?_
    refine zV_iload dX6_back_25 rfl 4 rfl ?_
    refine zV_callV (E' := eX6_tell (g_rmv 1)) (av := [.int (-1000001)]) (st := []) (b := 0) dX6_back_27 rfl (k_RX6_70 _) rfl ⟨by decide, by decide⟩ ⟨by decide, by decide⟩ (Or.inl rfl) rfl (Nat.le_of_ble_eq_true rfl) rfl rfl rfl (c_tell (w := 0) (by decide) (by decide)) (fun r27 M27 z => ?_)
    obtain ⟨rfl, rfl⟩ := z
    show zV G (eX6_back (g_rmv 6)) (0, 0) 30 [(0, .ref 0), (1, .int x), (2, .int y), (3, .int z), (4, .int (-1000001))] [.int (fdg 0)] (mm (up2 I 67 0 (I 67 0 + nI 1)) J t) _
    exact zV_ireturn dX6_back_30 rfl rfl (PC.tell hC hw (by unfold op_back; rw [if_neg h0]) (fun _ _ => rfl))

set_option maxRecDepth 100000 in
theorem m_rf0 {G : mG} {I : Nat → Nat → Int32} {J : Nat → Nat → Int64} {t : Nat} {x y z : Int32} (h : ¬ twoP x y) : zC G yX7_refuses (eX7_refuses (g_rmv 6)) [.ref 76, .int x, .int y, .int z] (mm I J t) (fun r M => r = some (.int (-1000001)) ∧ M = mm I J t) := by
  refine zC_of (by decide +kernel) rfl (by decide) (Nat.le_of_ble_eq_true rfl) ?_
  show zV G (eX7_refuses (g_rmv 6)) (0, 0) 0 [(0, .ref 76), (1, .int x), (2, .int y), (3, .int z)] [] (mm I J t) _
  refine zV_iload_n dX7_refuses_0 rfl 1 rfl rfl ?_
  refine zV_iload_n dX7_refuses_1 rfl 2 rfl rfl ?_
  refine zV_callS (E' := eX7_areTwo (g_rmv 2)) (av := [.int x, .int y]) (st := []) dX7_refuses_2 rfl (k_RX7_159 _) rfl ⟨by decide, by decide⟩ ⟨by decide, by decide⟩ (Or.inl rfl) rfl (Nat.le_of_ble_eq_true rfl) (m_two (x := x) (y := y)) (fun r2 M2 z => ?_)
  obtain ⟨rfl, rfl⟩ := z
  show zV G (eX7_refuses (g_rmv 6)) (0, 0) 5 [(0, .ref 76), (1, .int x), (2, .int y), (3, .int z)] [.int (b2 (twoP x y))] (mm I J t) _
  refine zB_if_eq (tgt := 15) dX7_refuses_5 rfl rfl  (fun _ => ?_) (fun z => absurd z h)
  refine zV_ldc (v := (-1000001)) dX7_refuses_15 rfl tw970 ?_
  refine zV_goto (tgt := 36) dX7_refuses_17 rfl ?_
  exact zV_ireturn dX7_refuses_36 rfl rfl (⟨rfl, rfl⟩)

set_option maxRecDepth 100000 in
theorem m_rf1 {G : mG} {I : Nat → Nat → Int32} {J : Nat → Nat → Int64} {t : Nat} {x y z : Int32} (h : twoP x y) (h2 : ¬ inR z 999) : zC G yX7_refuses (eX7_refuses (g_rmv 6)) [.ref 76, .int x, .int y, .int z] (mm I J t) (fun r M => r = some (.int (-1000001)) ∧ M = mm I J t) := by
  refine zC_of (by decide +kernel) rfl (by decide) (Nat.le_of_ble_eq_true rfl) ?_
  show zV G (eX7_refuses (g_rmv 6)) (0, 0) 0 [(0, .ref 76), (1, .int x), (2, .int y), (3, .int z)] [] (mm I J t) _
  refine zV_iload_n dX7_refuses_0 rfl 1 rfl rfl ?_
  refine zV_iload_n dX7_refuses_1 rfl 2 rfl rfl ?_
  refine zV_callS (E' := eX7_areTwo (g_rmv 2)) (av := [.int x, .int y]) (st := []) dX7_refuses_2 rfl (k_RX7_159 _) rfl ⟨by decide, by decide⟩ ⟨by decide, by decide⟩ (Or.inl rfl) rfl (Nat.le_of_ble_eq_true rfl) (m_two (x := x) (y := y)) (fun r2 M2 z => ?_)
  obtain ⟨rfl, rfl⟩ := z
  show zV G (eX7_refuses (g_rmv 6)) (0, 0) 5 [(0, .ref 76), (1, .int x), (2, .int y), (3, .int z)] [.int (b2 (twoP x y))] (mm I J t) _
  refine zB_if_eq (tgt := 15) dX7_refuses_5 rfl rfl  (fun z => absurd z (fun z => z h)) (fun _ => ?_)
  refine zV_iload_n dX7_refuses_8 rfl 3 rfl rfl ?_
  refine zV_callS (E' := eX7_isSum (g_rmv 1)) (av := [.int z]) (st := []) dX7_refuses_9 rfl (k_RX7_166 _) rfl ⟨by decide, by decide⟩ ⟨by decide, by decide⟩ (Or.inl rfl) rfl (Nat.le_of_ble_eq_true rfl) (m_isSum (x := z)) (fun r9 M9 z => ?_)
  obtain ⟨rfl, rfl⟩ := z
  show zV G (eX7_refuses (g_rmv 6)) (0, 0) 12 [(0, .ref 76), (1, .int x), (2, .int y), (3, .int z)] [.int (b2 (inR z 999))] (mm I J t) _
  refine zB_if_ne (tgt := 20) dX7_refuses_12 rfl rfl  (fun z => absurd z h2) (fun _ => ?_)
  refine zV_ldc (v := (-1000001)) dX7_refuses_15 rfl tw970 ?_
  refine zV_goto (tgt := 36) dX7_refuses_17 rfl ?_
  exact zV_ireturn dX7_refuses_36 rfl rfl (⟨rfl, rfl⟩)

set_option maxRecDepth 100000 in
theorem m_rf3 {G : mG} {I : Nat → Nat → Int32} {J : Nat → Nat → Int64} {t : Nat} {B : Nat} {σ : aL} (hR : absR I 77 σ) (hW : wfL B σ) {p q v : Nat} (hp : p < 4) (hq : q < 4) (hpq : p ≠ q) (hv : v ≤ 999) (eo : ld_best σ p q v = none) : zC G yX7_refuses (eX7_refuses (g_rmv 6)) [.ref 76, .int (nI p), .int (nI q), .int (nI v)] (mm I J t) (fun r M => ∃ I', r = some (.int (-1000004)) ∧ M = mm I' J t ∧ fr3 I I') := by
  refine zC_of (by decide +kernel) rfl (by decide) (Nat.le_of_ble_eq_true rfl) ?_
  show zV G (eX7_refuses (g_rmv 6)) (0, 0) 0 [(0, .ref 76), (1, .int (nI p)), (2, .int (nI q)), (3, .int (nI v))] [] (mm I J t) _
  refine zV_iload_n dX7_refuses_0 rfl 1 rfl rfl ?_
  refine zV_iload_n dX7_refuses_1 rfl 2 rfl rfl ?_
  refine zV_callS (E' := eX7_areTwo (g_rmv 2)) (av := [.int (nI p), .int (nI q)]) (st := []) dX7_refuses_2 rfl (k_RX7_159 _) rfl ⟨by decide, by decide⟩ ⟨by decide, by decide⟩ (Or.inl rfl) rfl (Nat.le_of_ble_eq_true rfl) (m_two (x := (nI p)) (y := (nI q))) (fun r2 M2 z => ?_)
  obtain ⟨rfl, rfl⟩ := z
  show zV G (eX7_refuses (g_rmv 6)) (0, 0) 5 [(0, .ref 76), (1, .int (nI p)), (2, .int (nI q)), (3, .int (nI v))] [.int (b2 (twoP (nI p) (nI q)))] (mm I J t) _
  refine zB_if_eq (tgt := 15) dX7_refuses_5 rfl rfl  (fun z => absurd z (fun z => z (twoP_mk (by omega) (by omega) hpq))) (fun _ => ?_)
  refine zV_iload_n dX7_refuses_8 rfl 3 rfl rfl ?_
  refine zV_callS (E' := eX7_isSum (g_rmv 1)) (av := [.int (nI v)]) (st := []) dX7_refuses_9 rfl (k_RX7_166 _) rfl ⟨by decide, by decide⟩ ⟨by decide, by decide⟩ (Or.inl rfl) rfl (Nat.le_of_ble_eq_true rfl) (m_isSum (x := (nI v))) (fun r9 M9 z => ?_)
  obtain ⟨rfl, rfl⟩ := z
  show zV G (eX7_refuses (g_rmv 6)) (0, 0) 12 [(0, .ref 76), (1, .int (nI p)), (2, .int (nI q)), (3, .int (nI v))] [.int (b2 (inR (nI v) 999))] (mm I J t) _
  refine zB_if_ne (tgt := 20) dX7_refuses_12 rfl rfl  (fun _ => ?_) (fun z => absurd z (fun z => z ⟨nI_pos' (by omega), nI_le (by omega) (by decide)⟩))
  refine zV_aload_n dX7_refuses_20 rfl 0 rfl rfl ?_
  refine zV_iload_n dX7_refuses_21 rfl 1 rfl rfl ?_
  refine zV_iload_n dX7_refuses_22 rfl 2 rfl rfl ?_
  refine zV_iload_n dX7_refuses_23 rfl 3 rfl rfl ?_
  refine zV_callV (E' := eX7_findBest (g_rmv 5)) (av := [.int (nI p), .int (nI q), .int (nI v)]) (st := []) (b := 76) dX7_refuses_24 rfl (k_RX7_195 _) rfl ⟨by decide, by decide⟩ ⟨by decide, by decide⟩ (Or.inl rfl) rfl (Nat.le_of_ble_eq_true rfl) rfl rfl rfl (m_findBest (p := p) (q := q) (v := v) hR hW hp hq hpq (by omega)) (fun r24 M24 z => ?_)
  obtain ⟨I24, rfl, rfl, hF24, hB24⟩ := z
  rw [eo] at hB24 ⊢
  show zV G (eX7_refuses (g_rmv 6)) (0, 0) 27 [(0, .ref 76), (1, .int (nI p)), (2, .int (nI q)), (3, .int (nI v))] [.int (nI 0)] (mm I24 J t) _
  refine zN_if_eq (tgt := 34) dX7_refuses_27 rfl rfl (by decide) (fun _ => ?_) (fun z => absurd z (by decide))
  refine zV_ldc (v := (-1000004)) dX7_refuses_34 rfl tw1107 ?_
  exact zV_ireturn dX7_refuses_36 rfl rfl (⟨_, rfl, rfl, hF24⟩)

set_option maxRecDepth 100000 in
theorem m_rfF {G : mG} {I : Nat → Nat → Int32} {J : Nat → Nat → Int64} {t : Nat} {B : Nat} {σ : aL} (hR : absR I 77 σ) (hW : wfL B σ) {p q v : Nat} (hp : p < 4) (hq : q < 4) (hpq : p ≠ q) (hv : v ≤ 999) {bb : Nat} (eo : ld_best σ p q v = some bb) : zC G yX7_refuses (eX7_refuses (g_rmv 6)) [.ref 76, .int (nI p), .int (nI q), .int (nI v)] (mm I J t) (fun r M => ∃ I', r = some (.int (nI 0)) ∧ M = mm I' J t ∧ fr3 I I' ∧ I' 76 6 = nI (gv σ p bb) ∧ I' 76 7 = nI (gv σ q bb) ∧ I' 76 8 = cs σ p q bb) := by
  refine zC_of (by decide +kernel) rfl (by decide) (Nat.le_of_ble_eq_true rfl) ?_
  show zV G (eX7_refuses (g_rmv 6)) (0, 0) 0 [(0, .ref 76), (1, .int (nI p)), (2, .int (nI q)), (3, .int (nI v))] [] (mm I J t) _
  refine zV_iload_n dX7_refuses_0 rfl 1 rfl rfl ?_
  refine zV_iload_n dX7_refuses_1 rfl 2 rfl rfl ?_
  refine zV_callS (E' := eX7_areTwo (g_rmv 2)) (av := [.int (nI p), .int (nI q)]) (st := []) dX7_refuses_2 rfl (k_RX7_159 _) rfl ⟨by decide, by decide⟩ ⟨by decide, by decide⟩ (Or.inl rfl) rfl (Nat.le_of_ble_eq_true rfl) (m_two (x := (nI p)) (y := (nI q))) (fun r2 M2 z => ?_)
  obtain ⟨rfl, rfl⟩ := z
  show zV G (eX7_refuses (g_rmv 6)) (0, 0) 5 [(0, .ref 76), (1, .int (nI p)), (2, .int (nI q)), (3, .int (nI v))] [.int (b2 (twoP (nI p) (nI q)))] (mm I J t) _
  refine zB_if_eq (tgt := 15) dX7_refuses_5 rfl rfl  (fun z => absurd z (fun z => z (twoP_mk (by omega) (by omega) hpq))) (fun _ => ?_)
  refine zV_iload_n dX7_refuses_8 rfl 3 rfl rfl ?_
  refine zV_callS (E' := eX7_isSum (g_rmv 1)) (av := [.int (nI v)]) (st := []) dX7_refuses_9 rfl (k_RX7_166 _) rfl ⟨by decide, by decide⟩ ⟨by decide, by decide⟩ (Or.inl rfl) rfl (Nat.le_of_ble_eq_true rfl) (m_isSum (x := (nI v))) (fun r9 M9 z => ?_)
  obtain ⟨rfl, rfl⟩ := z
  show zV G (eX7_refuses (g_rmv 6)) (0, 0) 12 [(0, .ref 76), (1, .int (nI p)), (2, .int (nI q)), (3, .int (nI v))] [.int (b2 (inR (nI v) 999))] (mm I J t) _
  refine zB_if_ne (tgt := 20) dX7_refuses_12 rfl rfl  (fun _ => ?_) (fun z => absurd z (fun z => z ⟨nI_pos' (by omega), nI_le (by omega) (by decide)⟩))
  refine zV_aload_n dX7_refuses_20 rfl 0 rfl rfl ?_
  refine zV_iload_n dX7_refuses_21 rfl 1 rfl rfl ?_
  refine zV_iload_n dX7_refuses_22 rfl 2 rfl rfl ?_
  refine zV_iload_n dX7_refuses_23 rfl 3 rfl rfl ?_
  refine zV_callV (E' := eX7_findBest (g_rmv 5)) (av := [.int (nI p), .int (nI q), .int (nI v)]) (st := []) (b := 76) dX7_refuses_24 rfl (k_RX7_195 _) rfl ⟨by decide, by decide⟩ ⟨by decide, by decide⟩ (Or.inl rfl) rfl (Nat.le_of_ble_eq_true rfl) rfl rfl rfl (m_findBest (p := p) (q := q) (v := v) hR hW hp hq hpq (by omega)) (fun r24 M24 z => ?_)
  obtain ⟨I24, rfl, rfl, hF24, hB24⟩ := z
  rw [eo] at hB24 ⊢
  show zV G (eX7_refuses (g_rmv 6)) (0, 0) 27 [(0, .ref 76), (1, .int (nI p)), (2, .int (nI q)), (3, .int (nI v))] [.int (nI 1)] (mm I24 J t) _
  refine zN_if_eq (tgt := 34) dX7_refuses_27 rfl rfl (by decide) (fun z => absurd z (by decide)) (fun _ => ?_)
  refine zV_iconst (v := (nI 0)) dX7_refuses_30 rfl rfl ?_
  refine zV_goto (tgt := 36) dX7_refuses_31 rfl ?_
  exact zV_ireturn dX7_refuses_36 rfl rfl (⟨_, rfl, rfl, hF24, hB24⟩)

set_option maxRecDepth 100000 in
theorem q_cost {G : mG} {I : Nat → Nat → Int32} {J : Nat → Nat → Int64} {t : Nat} {B : Nat} {S : aS} (hM : InvM I S) (hw : wfS B S) {x y z : Int32} : zC G yX7_cost (eX7_cost (g_rmv 7)) [.ref 76, .int x, .int y, .int z] (mm I J t) (fun r M => PM I (op_cost S x y z) r M) := by
  refine zC_of (by decide +kernel) rfl (by decide) (Nat.le_of_ble_eq_true rfl) ?_
  have n10 := hw.1.1
  show zV G (eX7_cost (g_rmv 7)) (0, 0) 0 [(0, .ref 76), (1, .int x), (2, .int y), (3, .int z)] [] (mm I J t) _
  by_cases h0 : twoP x y
  · by_cases h1 : inR z 999
    · obtain ⟨p, q, hp, hq, hpq, rfl, rfl⟩ := z_two h0
      obtain ⟨v, hv, rfl⟩ := (inR_iff (by decide)).mp h1
      cases eo : ld_best S.1 p q v with
      | none =>
        show zV G (eX7_cost (g_rmv 7)) (0, 0) 0 [(0, .ref 76), (1, .int (nI p)), (2, .int (nI q)), (3, .int (nI v))] [] (mm I J t) _
        refine zV_aload_n dX7_cost_0 rfl 0 rfl rfl ?_
        refine zV_iload_n dX7_cost_1 rfl 1 rfl rfl ?_
        refine zV_iload_n dX7_cost_2 rfl 2 rfl rfl ?_
        refine zV_iload_n dX7_cost_3 rfl 3 rfl rfl ?_
        refine zV_callV (E' := eX7_refuses (g_rmv 6)) (av := [.int (nI p), .int (nI q), .int (nI v)]) (st := []) (b := 76) dX7_cost_4 rfl (k_RX7_198 _) rfl ⟨by decide, by decide⟩ ⟨by decide, by decide⟩ (Or.inl rfl) rfl (Nat.le_of_ble_eq_true rfl) rfl rfl rfl (m_rf3 hM.1 hw.1 hp hq hpq hv eo) (fun r4 M4 z => ?_)
        obtain ⟨I4, rfl, rfl, hF4⟩ := z
        show zV G (eX7_cost (g_rmv 7)) (0, 0) 7 [(0, .ref 76), (1, .int (nI p)), (2, .int (nI q)), (3, .int (nI v))] [.int (-1000004)] (mm I4 J t) _
        refine zV_istore (lv' := [(0, .ref 76), (1, .int (nI p)), (2, .int (nI q)), (3, .int (nI v)), (4, .int (-1000004))]) dX7_cost_7 rfl (by decide) rfl ?_
        refine zV_iload dX7_cost_9 rfl 4 rfl ?_
        refine zV_if_eq (tgt := 23) dX7_cost_11 rfl rfl  (fun z => absurd z (by decide)) (fun _ => ?_)
        refine zV_aload_n dX7_cost_14 rfl 0 rfl rfl ?_
        refine zV_iload dX7_cost_15 rfl 4 rfl ?_
        refine zV_callV (E' := eX7_finding (g_rmv 0)) (av := [.int (-1000004)]) (st := []) (b := 76) dX7_cost_17 rfl (k_RX7_87 _) rfl ⟨by decide, by decide⟩ ⟨by decide, by decide⟩ (Or.inl rfl) rfl (Nat.le_of_ble_eq_true rfl) rfl rfl rfl (m_finding (w := 3) (by decide) (by decide)) (fun r17 M17 z => ?_)
        obtain ⟨rfl, rfl⟩ := z
        show zV G (eX7_cost (g_rmv 7)) (0, 0) 20 [(0, .ref 76), (1, .int (nI p)), (2, .int (nI q)), (3, .int (nI v)), (4, .int (-1000004))] [.int (fdg 3)] (mm (mTell I4 3) J t) _
        refine zV_goto (tgt := 27) dX7_cost_20 rfl ?_
        exact zV_ireturn dX7_cost_27 rfl rfl (PM.tell hM (by decide) (by unfold op_cost; rw [if_pos h0, if_pos h1, tn_nI (show p < 2 ^ 31 by omega), tn_nI (show q < 2 ^ 31 by omega), tn_nI (show v < 2 ^ 31 by omega), eo]) hF4.sc)
      | some bb =>
        have g1 := gv_lt n10 p bb
        have g2 := gv_lt n10 q bb
        show zV G (eX7_cost (g_rmv 7)) (0, 0) 0 [(0, .ref 76), (1, .int (nI p)), (2, .int (nI q)), (3, .int (nI v))] [] (mm I J t) _
        refine zV_aload_n dX7_cost_0 rfl 0 rfl rfl ?_
        refine zV_iload_n dX7_cost_1 rfl 1 rfl rfl ?_
        refine zV_iload_n dX7_cost_2 rfl 2 rfl rfl ?_
        refine zV_iload_n dX7_cost_3 rfl 3 rfl rfl ?_
        refine zV_callV (E' := eX7_refuses (g_rmv 6)) (av := [.int (nI p), .int (nI q), .int (nI v)]) (st := []) (b := 76) dX7_cost_4 rfl (k_RX7_198 _) rfl ⟨by decide, by decide⟩ ⟨by decide, by decide⟩ (Or.inl rfl) rfl (Nat.le_of_ble_eq_true rfl) rfl rfl rfl (m_rfF hM.1 hw.1 hp hq hpq hv eo) (fun r4 M4 z => ?_)
        obtain ⟨I4, rfl, rfl, hF4, hG4, hK4, hC4⟩ := z
        show zV G (eX7_cost (g_rmv 7)) (0, 0) 7 [(0, .ref 76), (1, .int (nI p)), (2, .int (nI q)), (3, .int (nI v))] [.int (nI 0)] (mm I4 J t) _
        refine zV_istore (lv' := [(0, .ref 76), (1, .int (nI p)), (2, .int (nI q)), (3, .int (nI v)), (4, .int (nI 0))]) dX7_cost_7 rfl (by decide) rfl ?_
        refine zV_iload dX7_cost_9 rfl 4 rfl ?_
        refine zN_if_eq (tgt := 23) dX7_cost_11 rfl rfl (by decide) (fun _ => ?_) (fun z => absurd z (by decide))
        refine zV_aload_n dX7_cost_23 rfl 0 rfl rfl ?_
        refine zV_getI (x := (cs S.1 p q bb)) 8 dX7_cost_24 rfl fl_RX7_183 rfl (by decide) rfl hC4 ?_
        exact zV_ireturn dX7_cost_27 rfl rfl (PM.same hM (by unfold op_cost; rw [if_pos h0, if_pos h1, tn_nI (show p < 2 ^ 31 by omega), tn_nI (show q < 2 ^ 31 by omega), tn_nI (show v < 2 ^ 31 by omega), eo]) hF4.sc)
    · show zV G (eX7_cost (g_rmv 7)) (0, 0) 0 [(0, .ref 76), (1, .int x), (2, .int y), (3, .int z)] [] (mm I J t) _
      refine zV_aload_n dX7_cost_0 rfl 0 rfl rfl ?_
      refine zV_iload_n dX7_cost_1 rfl 1 rfl rfl ?_
      refine zV_iload_n dX7_cost_2 rfl 2 rfl rfl ?_
      refine zV_iload_n dX7_cost_3 rfl 3 rfl rfl ?_
      refine zV_callV (E' := eX7_refuses (g_rmv 6)) (av := [.int x, .int y, .int z]) (st := []) (b := 76) dX7_cost_4 rfl (k_RX7_198 _) rfl ⟨by decide, by decide⟩ ⟨by decide, by decide⟩ (Or.inl rfl) rfl (Nat.le_of_ble_eq_true rfl) rfl rfl rfl (m_rf1 h0 h1) (fun r4 M4 z => ?_)
      obtain ⟨rfl, rfl⟩ := z
      show zV G (eX7_cost (g_rmv 7)) (0, 0) 7 [(0, .ref 76), (1, .int x), (2, .int y), (3, .int z)] [.int (-1000001)] (mm I J t) _
      refine zV_istore (lv' := [(0, .ref 76), (1, .int x), (2, .int y), (3, .int z), (4, .int (-1000001))]) dX7_cost_7 rfl (by decide) rfl ?_
      refine zV_iload dX7_cost_9 rfl 4 rfl ?_
      refine zV_if_eq (tgt := 23) dX7_cost_11 rfl rfl  (fun z => absurd z (by decide)) (fun _ => ?_)
      refine zV_aload_n dX7_cost_14 rfl 0 rfl rfl ?_
      refine zV_iload dX7_cost_15 rfl 4 rfl ?_
      refine zV_callV (E' := eX7_finding (g_rmv 0)) (av := [.int (-1000001)]) (st := []) (b := 76) dX7_cost_17 rfl (k_RX7_87 _) rfl ⟨by decide, by decide⟩ ⟨by decide, by decide⟩ (Or.inl rfl) rfl (Nat.le_of_ble_eq_true rfl) rfl rfl rfl (m_finding (w := 0) (by decide) (by decide)) (fun r17 M17 z => ?_)
      obtain ⟨rfl, rfl⟩ := z
      show zV G (eX7_cost (g_rmv 7)) (0, 0) 20 [(0, .ref 76), (1, .int x), (2, .int y), (3, .int z), (4, .int (-1000001))] [.int (fdg 0)] (mm (mTell I 0) J t) _
      refine zV_goto (tgt := 27) dX7_cost_20 rfl ?_
      exact zV_ireturn dX7_cost_27 rfl rfl (PM.tell hM (by decide) (by unfold op_cost; rw [if_pos h0, if_neg h1]) scM.rf)
  · show zV G (eX7_cost (g_rmv 7)) (0, 0) 0 [(0, .ref 76), (1, .int x), (2, .int y), (3, .int z)] [] (mm I J t) _
    refine zV_aload_n dX7_cost_0 rfl 0 rfl rfl ?_
    refine zV_iload_n dX7_cost_1 rfl 1 rfl rfl ?_
    refine zV_iload_n dX7_cost_2 rfl 2 rfl rfl ?_
    refine zV_iload_n dX7_cost_3 rfl 3 rfl rfl ?_
    refine zV_callV (E' := eX7_refuses (g_rmv 6)) (av := [.int x, .int y, .int z]) (st := []) (b := 76) dX7_cost_4 rfl (k_RX7_198 _) rfl ⟨by decide, by decide⟩ ⟨by decide, by decide⟩ (Or.inl rfl) rfl (Nat.le_of_ble_eq_true rfl) rfl rfl rfl (m_rf0 h0) (fun r4 M4 z => ?_)
    obtain ⟨rfl, rfl⟩ := z
    show zV G (eX7_cost (g_rmv 7)) (0, 0) 7 [(0, .ref 76), (1, .int x), (2, .int y), (3, .int z)] [.int (-1000001)] (mm I J t) _
    refine zV_istore (lv' := [(0, .ref 76), (1, .int x), (2, .int y), (3, .int z), (4, .int (-1000001))]) dX7_cost_7 rfl (by decide) rfl ?_
    refine zV_iload dX7_cost_9 rfl 4 rfl ?_
    refine zV_if_eq (tgt := 23) dX7_cost_11 rfl rfl  (fun z => absurd z (by decide)) (fun _ => ?_)
    refine zV_aload_n dX7_cost_14 rfl 0 rfl rfl ?_
    refine zV_iload dX7_cost_15 rfl 4 rfl ?_
    refine zV_callV (E' := eX7_finding (g_rmv 0)) (av := [.int (-1000001)]) (st := []) (b := 76) dX7_cost_17 rfl (k_RX7_87 _) rfl ⟨by decide, by decide⟩ ⟨by decide, by decide⟩ (Or.inl rfl) rfl (Nat.le_of_ble_eq_true rfl) rfl rfl rfl (m_finding (w := 0) (by decide) (by decide)) (fun r17 M17 z => ?_)
    obtain ⟨rfl, rfl⟩ := z
    show zV G (eX7_cost (g_rmv 7)) (0, 0) 20 [(0, .ref 76), (1, .int x), (2, .int y), (3, .int z), (4, .int (-1000001))] [.int (fdg 0)] (mm (mTell I 0) J t) _
    refine zV_goto (tgt := 27) dX7_cost_20 rfl ?_
    exact zV_ireturn dX7_cost_27 rfl rfl (PM.tell hM (by decide) (by unfold op_cost; rw [if_neg h0]) scM.rf)

set_option maxRecDepth 100000 in
theorem q_given {G : mG} {I : Nat → Nat → Int32} {J : Nat → Nat → Int64} {t : Nat} {B : Nat} {S : aS} (hM : InvM I S) (hw : wfS B S) {x y z : Int32} : zC G yX7_given (eX7_given (g_rmv 7)) [.ref 76, .int x, .int y, .int z] (mm I J t) (fun r M => PM I (op_given S x y z) r M) := by
  refine zC_of (by decide +kernel) rfl (by decide) (Nat.le_of_ble_eq_true rfl) ?_
  have n10 := hw.1.1
  show zV G (eX7_given (g_rmv 7)) (0, 0) 0 [(0, .ref 76), (1, .int x), (2, .int y), (3, .int z)] [] (mm I J t) _
  by_cases h0 : twoP x y
  · by_cases h1 : inR z 999
    · obtain ⟨p, q, hp, hq, hpq, rfl, rfl⟩ := z_two h0
      obtain ⟨v, hv, rfl⟩ := (inR_iff (by decide)).mp h1
      cases eo : ld_best S.1 p q v with
      | none =>
        show zV G (eX7_given (g_rmv 7)) (0, 0) 0 [(0, .ref 76), (1, .int (nI p)), (2, .int (nI q)), (3, .int (nI v))] [] (mm I J t) _
        refine zV_aload_n dX7_given_0 rfl 0 rfl rfl ?_
        refine zV_iload_n dX7_given_1 rfl 1 rfl rfl ?_
        refine zV_iload_n dX7_given_2 rfl 2 rfl rfl ?_
        refine zV_iload_n dX7_given_3 rfl 3 rfl rfl ?_
        refine zV_callV (E' := eX7_refuses (g_rmv 6)) (av := [.int (nI p), .int (nI q), .int (nI v)]) (st := []) (b := 76) dX7_given_4 rfl (k_RX7_198 _) rfl ⟨by decide, by decide⟩ ⟨by decide, by decide⟩ (Or.inl rfl) rfl (Nat.le_of_ble_eq_true rfl) rfl rfl rfl (m_rf3 hM.1 hw.1 hp hq hpq hv eo) (fun r4 M4 z => ?_)
        obtain ⟨I4, rfl, rfl, hF4⟩ := z
        show zV G (eX7_given (g_rmv 7)) (0, 0) 7 [(0, .ref 76), (1, .int (nI p)), (2, .int (nI q)), (3, .int (nI v))] [.int (-1000004)] (mm I4 J t) _
        refine zV_istore (lv' := [(0, .ref 76), (1, .int (nI p)), (2, .int (nI q)), (3, .int (nI v)), (4, .int (-1000004))]) dX7_given_7 rfl (by decide) rfl ?_
        refine zV_iload dX7_given_9 rfl 4 rfl ?_
        refine zV_if_eq (tgt := 23) dX7_given_11 rfl rfl  (fun z => absurd z (by decide)) (fun _ => ?_)
        refine zV_aload_n dX7_given_14 rfl 0 rfl rfl ?_
        refine zV_iload dX7_given_15 rfl 4 rfl ?_
        refine zV_callV (E' := eX7_finding (g_rmv 0)) (av := [.int (-1000004)]) (st := []) (b := 76) dX7_given_17 rfl (k_RX7_87 _) rfl ⟨by decide, by decide⟩ ⟨by decide, by decide⟩ (Or.inl rfl) rfl (Nat.le_of_ble_eq_true rfl) rfl rfl rfl (m_finding (w := 3) (by decide) (by decide)) (fun r17 M17 z => ?_)
        obtain ⟨rfl, rfl⟩ := z
        show zV G (eX7_given (g_rmv 7)) (0, 0) 20 [(0, .ref 76), (1, .int (nI p)), (2, .int (nI q)), (3, .int (nI v)), (4, .int (-1000004))] [.int (fdg 3)] (mm (mTell I4 3) J t) _
        refine zV_goto (tgt := 27) dX7_given_20 rfl ?_
        exact zV_ireturn dX7_given_27 rfl rfl (PM.tell hM (by decide) (by unfold op_given; rw [if_pos h0, if_pos h1, tn_nI (show p < 2 ^ 31 by omega), tn_nI (show q < 2 ^ 31 by omega), tn_nI (show v < 2 ^ 31 by omega), eo]) hF4.sc)
      | some bb =>
        have g1 := gv_lt n10 p bb
        have g2 := gv_lt n10 q bb
        show zV G (eX7_given (g_rmv 7)) (0, 0) 0 [(0, .ref 76), (1, .int (nI p)), (2, .int (nI q)), (3, .int (nI v))] [] (mm I J t) _
        refine zV_aload_n dX7_given_0 rfl 0 rfl rfl ?_
        refine zV_iload_n dX7_given_1 rfl 1 rfl rfl ?_
        refine zV_iload_n dX7_given_2 rfl 2 rfl rfl ?_
        refine zV_iload_n dX7_given_3 rfl 3 rfl rfl ?_
        refine zV_callV (E' := eX7_refuses (g_rmv 6)) (av := [.int (nI p), .int (nI q), .int (nI v)]) (st := []) (b := 76) dX7_given_4 rfl (k_RX7_198 _) rfl ⟨by decide, by decide⟩ ⟨by decide, by decide⟩ (Or.inl rfl) rfl (Nat.le_of_ble_eq_true rfl) rfl rfl rfl (m_rfF hM.1 hw.1 hp hq hpq hv eo) (fun r4 M4 z => ?_)
        obtain ⟨I4, rfl, rfl, hF4, hG4, hK4, hC4⟩ := z
        show zV G (eX7_given (g_rmv 7)) (0, 0) 7 [(0, .ref 76), (1, .int (nI p)), (2, .int (nI q)), (3, .int (nI v))] [.int (nI 0)] (mm I4 J t) _
        refine zV_istore (lv' := [(0, .ref 76), (1, .int (nI p)), (2, .int (nI q)), (3, .int (nI v)), (4, .int (nI 0))]) dX7_given_7 rfl (by decide) rfl ?_
        refine zV_iload dX7_given_9 rfl 4 rfl ?_
        refine zN_if_eq (tgt := 23) dX7_given_11 rfl rfl (by decide) (fun _ => ?_) (fun z => absurd z (by decide))
        refine zV_aload_n dX7_given_23 rfl 0 rfl rfl ?_
        refine zV_getI (x := (nI (gv S.1 p bb))) 6 dX7_given_24 rfl fl_RX7_179 rfl (by decide) rfl hG4 ?_
        exact zV_ireturn dX7_given_27 rfl rfl (PM.same hM (by unfold op_given; rw [if_pos h0, if_pos h1, tn_nI (show p < 2 ^ 31 by omega), tn_nI (show q < 2 ^ 31 by omega), tn_nI (show v < 2 ^ 31 by omega), eo]) hF4.sc)
    · show zV G (eX7_given (g_rmv 7)) (0, 0) 0 [(0, .ref 76), (1, .int x), (2, .int y), (3, .int z)] [] (mm I J t) _
      refine zV_aload_n dX7_given_0 rfl 0 rfl rfl ?_
      refine zV_iload_n dX7_given_1 rfl 1 rfl rfl ?_
      refine zV_iload_n dX7_given_2 rfl 2 rfl rfl ?_
      refine zV_iload_n dX7_given_3 rfl 3 rfl rfl ?_
      refine zV_callV (E' := eX7_refuses (g_rmv 6)) (av := [.int x, .int y, .int z]) (st := []) (b := 76) dX7_given_4 rfl (k_RX7_198 _) rfl ⟨by decide, by decide⟩ ⟨by decide, by decide⟩ (Or.inl rfl) rfl (Nat.le_of_ble_eq_true rfl) rfl rfl rfl (m_rf1 h0 h1) (fun r4 M4 z => ?_)
      obtain ⟨rfl, rfl⟩ := z
      show zV G (eX7_given (g_rmv 7)) (0, 0) 7 [(0, .ref 76), (1, .int x), (2, .int y), (3, .int z)] [.int (-1000001)] (mm I J t) _
      refine zV_istore (lv' := [(0, .ref 76), (1, .int x), (2, .int y), (3, .int z), (4, .int (-1000001))]) dX7_given_7 rfl (by decide) rfl ?_
      refine zV_iload dX7_given_9 rfl 4 rfl ?_
      refine zV_if_eq (tgt := 23) dX7_given_11 rfl rfl  (fun z => absurd z (by decide)) (fun _ => ?_)
      refine zV_aload_n dX7_given_14 rfl 0 rfl rfl ?_
      refine zV_iload dX7_given_15 rfl 4 rfl ?_
      refine zV_callV (E' := eX7_finding (g_rmv 0)) (av := [.int (-1000001)]) (st := []) (b := 76) dX7_given_17 rfl (k_RX7_87 _) rfl ⟨by decide, by decide⟩ ⟨by decide, by decide⟩ (Or.inl rfl) rfl (Nat.le_of_ble_eq_true rfl) rfl rfl rfl (m_finding (w := 0) (by decide) (by decide)) (fun r17 M17 z => ?_)
      obtain ⟨rfl, rfl⟩ := z
      show zV G (eX7_given (g_rmv 7)) (0, 0) 20 [(0, .ref 76), (1, .int x), (2, .int y), (3, .int z), (4, .int (-1000001))] [.int (fdg 0)] (mm (mTell I 0) J t) _
      refine zV_goto (tgt := 27) dX7_given_20 rfl ?_
      exact zV_ireturn dX7_given_27 rfl rfl (PM.tell hM (by decide) (by unfold op_given; rw [if_pos h0, if_neg h1]) scM.rf)
  · show zV G (eX7_given (g_rmv 7)) (0, 0) 0 [(0, .ref 76), (1, .int x), (2, .int y), (3, .int z)] [] (mm I J t) _
    refine zV_aload_n dX7_given_0 rfl 0 rfl rfl ?_
    refine zV_iload_n dX7_given_1 rfl 1 rfl rfl ?_
    refine zV_iload_n dX7_given_2 rfl 2 rfl rfl ?_
    refine zV_iload_n dX7_given_3 rfl 3 rfl rfl ?_
    refine zV_callV (E' := eX7_refuses (g_rmv 6)) (av := [.int x, .int y, .int z]) (st := []) (b := 76) dX7_given_4 rfl (k_RX7_198 _) rfl ⟨by decide, by decide⟩ ⟨by decide, by decide⟩ (Or.inl rfl) rfl (Nat.le_of_ble_eq_true rfl) rfl rfl rfl (m_rf0 h0) (fun r4 M4 z => ?_)
    obtain ⟨rfl, rfl⟩ := z
    show zV G (eX7_given (g_rmv 7)) (0, 0) 7 [(0, .ref 76), (1, .int x), (2, .int y), (3, .int z)] [.int (-1000001)] (mm I J t) _
    refine zV_istore (lv' := [(0, .ref 76), (1, .int x), (2, .int y), (3, .int z), (4, .int (-1000001))]) dX7_given_7 rfl (by decide) rfl ?_
    refine zV_iload dX7_given_9 rfl 4 rfl ?_
    refine zV_if_eq (tgt := 23) dX7_given_11 rfl rfl  (fun z => absurd z (by decide)) (fun _ => ?_)
    refine zV_aload_n dX7_given_14 rfl 0 rfl rfl ?_
    refine zV_iload dX7_given_15 rfl 4 rfl ?_
    refine zV_callV (E' := eX7_finding (g_rmv 0)) (av := [.int (-1000001)]) (st := []) (b := 76) dX7_given_17 rfl (k_RX7_87 _) rfl ⟨by decide, by decide⟩ ⟨by decide, by decide⟩ (Or.inl rfl) rfl (Nat.le_of_ble_eq_true rfl) rfl rfl rfl (m_finding (w := 0) (by decide) (by decide)) (fun r17 M17 z => ?_)
    obtain ⟨rfl, rfl⟩ := z
    show zV G (eX7_given (g_rmv 7)) (0, 0) 20 [(0, .ref 76), (1, .int x), (2, .int y), (3, .int z), (4, .int (-1000001))] [.int (fdg 0)] (mm (mTell I 0) J t) _
    refine zV_goto (tgt := 27) dX7_given_20 rfl ?_
    exact zV_ireturn dX7_given_27 rfl rfl (PM.tell hM (by decide) (by unfold op_given; rw [if_neg h0]) scM.rf)

set_option maxRecDepth 100000 in
theorem q_back {G : mG} {I : Nat → Nat → Int32} {J : Nat → Nat → Int64} {t : Nat} {B : Nat} {S : aS} (hM : InvM I S) (hw : wfS B S) {x y z : Int32} : zC G yX7_back (eX7_back (g_rmv 7)) [.ref 76, .int x, .int y, .int z] (mm I J t) (fun r M => PM I (op_back S x y z) r M) := by
  refine zC_of (by decide +kernel) rfl (by decide) (Nat.le_of_ble_eq_true rfl) ?_
  have n10 := hw.1.1
  show zV G (eX7_back (g_rmv 7)) (0, 0) 0 [(0, .ref 76), (1, .int x), (2, .int y), (3, .int z)] [] (mm I J t) _
  by_cases h0 : twoP x y
  · by_cases h1 : inR z 999
    · obtain ⟨p, q, hp, hq, hpq, rfl, rfl⟩ := z_two h0
      obtain ⟨v, hv, rfl⟩ := (inR_iff (by decide)).mp h1
      cases eo : ld_best S.1 p q v with
      | none =>
        show zV G (eX7_back (g_rmv 7)) (0, 0) 0 [(0, .ref 76), (1, .int (nI p)), (2, .int (nI q)), (3, .int (nI v))] [] (mm I J t) _
        refine zV_aload_n dX7_back_0 rfl 0 rfl rfl ?_
        refine zV_iload_n dX7_back_1 rfl 1 rfl rfl ?_
        refine zV_iload_n dX7_back_2 rfl 2 rfl rfl ?_
        refine zV_iload_n dX7_back_3 rfl 3 rfl rfl ?_
        refine zV_callV (E' := eX7_refuses (g_rmv 6)) (av := [.int (nI p), .int (nI q), .int (nI v)]) (st := []) (b := 76) dX7_back_4 rfl (k_RX7_198 _) rfl ⟨by decide, by decide⟩ ⟨by decide, by decide⟩ (Or.inl rfl) rfl (Nat.le_of_ble_eq_true rfl) rfl rfl rfl (m_rf3 hM.1 hw.1 hp hq hpq hv eo) (fun r4 M4 z => ?_)
        obtain ⟨I4, rfl, rfl, hF4⟩ := z
        show zV G (eX7_back (g_rmv 7)) (0, 0) 7 [(0, .ref 76), (1, .int (nI p)), (2, .int (nI q)), (3, .int (nI v))] [.int (-1000004)] (mm I4 J t) _
        refine zV_istore (lv' := [(0, .ref 76), (1, .int (nI p)), (2, .int (nI q)), (3, .int (nI v)), (4, .int (-1000004))]) dX7_back_7 rfl (by decide) rfl ?_
        refine zV_iload dX7_back_9 rfl 4 rfl ?_
        refine zV_if_eq (tgt := 23) dX7_back_11 rfl rfl  (fun z => absurd z (by decide)) (fun _ => ?_)
        refine zV_aload_n dX7_back_14 rfl 0 rfl rfl ?_
        refine zV_iload dX7_back_15 rfl 4 rfl ?_
        refine zV_callV (E' := eX7_finding (g_rmv 0)) (av := [.int (-1000004)]) (st := []) (b := 76) dX7_back_17 rfl (k_RX7_87 _) rfl ⟨by decide, by decide⟩ ⟨by decide, by decide⟩ (Or.inl rfl) rfl (Nat.le_of_ble_eq_true rfl) rfl rfl rfl (m_finding (w := 3) (by decide) (by decide)) (fun r17 M17 z => ?_)
        obtain ⟨rfl, rfl⟩ := z
        show zV G (eX7_back (g_rmv 7)) (0, 0) 20 [(0, .ref 76), (1, .int (nI p)), (2, .int (nI q)), (3, .int (nI v)), (4, .int (-1000004))] [.int (fdg 3)] (mm (mTell I4 3) J t) _
        refine zV_goto (tgt := 27) dX7_back_20 rfl ?_
        exact zV_ireturn dX7_back_27 rfl rfl (PM.tell hM (by decide) (by unfold op_back; rw [if_pos h0, if_pos h1, tn_nI (show p < 2 ^ 31 by omega), tn_nI (show q < 2 ^ 31 by omega), tn_nI (show v < 2 ^ 31 by omega), eo]) hF4.sc)
      | some bb =>
        have g1 := gv_lt n10 p bb
        have g2 := gv_lt n10 q bb
        show zV G (eX7_back (g_rmv 7)) (0, 0) 0 [(0, .ref 76), (1, .int (nI p)), (2, .int (nI q)), (3, .int (nI v))] [] (mm I J t) _
        refine zV_aload_n dX7_back_0 rfl 0 rfl rfl ?_
        refine zV_iload_n dX7_back_1 rfl 1 rfl rfl ?_
        refine zV_iload_n dX7_back_2 rfl 2 rfl rfl ?_
        refine zV_iload_n dX7_back_3 rfl 3 rfl rfl ?_
        refine zV_callV (E' := eX7_refuses (g_rmv 6)) (av := [.int (nI p), .int (nI q), .int (nI v)]) (st := []) (b := 76) dX7_back_4 rfl (k_RX7_198 _) rfl ⟨by decide, by decide⟩ ⟨by decide, by decide⟩ (Or.inl rfl) rfl (Nat.le_of_ble_eq_true rfl) rfl rfl rfl (m_rfF hM.1 hw.1 hp hq hpq hv eo) (fun r4 M4 z => ?_)
        obtain ⟨I4, rfl, rfl, hF4, hG4, hK4, hC4⟩ := z
        show zV G (eX7_back (g_rmv 7)) (0, 0) 7 [(0, .ref 76), (1, .int (nI p)), (2, .int (nI q)), (3, .int (nI v))] [.int (nI 0)] (mm I4 J t) _
        refine zV_istore (lv' := [(0, .ref 76), (1, .int (nI p)), (2, .int (nI q)), (3, .int (nI v)), (4, .int (nI 0))]) dX7_back_7 rfl (by decide) rfl ?_
        refine zV_iload dX7_back_9 rfl 4 rfl ?_
        refine zN_if_eq (tgt := 23) dX7_back_11 rfl rfl (by decide) (fun _ => ?_) (fun z => absurd z (by decide))
        refine zV_aload_n dX7_back_23 rfl 0 rfl rfl ?_
        refine zV_getI (x := (nI (gv S.1 q bb))) 7 dX7_back_24 rfl fl_RX7_189 rfl (by decide) rfl hK4 ?_
        exact zV_ireturn dX7_back_27 rfl rfl (PM.same hM (by unfold op_back; rw [if_pos h0, if_pos h1, tn_nI (show p < 2 ^ 31 by omega), tn_nI (show q < 2 ^ 31 by omega), tn_nI (show v < 2 ^ 31 by omega), eo]) hF4.sc)
    · show zV G (eX7_back (g_rmv 7)) (0, 0) 0 [(0, .ref 76), (1, .int x), (2, .int y), (3, .int z)] [] (mm I J t) _
      refine zV_aload_n dX7_back_0 rfl 0 rfl rfl ?_
      refine zV_iload_n dX7_back_1 rfl 1 rfl rfl ?_
      refine zV_iload_n dX7_back_2 rfl 2 rfl rfl ?_
      refine zV_iload_n dX7_back_3 rfl 3 rfl rfl ?_
      refine zV_callV (E' := eX7_refuses (g_rmv 6)) (av := [.int x, .int y, .int z]) (st := []) (b := 76) dX7_back_4 rfl (k_RX7_198 _) rfl ⟨by decide, by decide⟩ ⟨by decide, by decide⟩ (Or.inl rfl) rfl (Nat.le_of_ble_eq_true rfl) rfl rfl rfl (m_rf1 h0 h1) (fun r4 M4 z => ?_)
      obtain ⟨rfl, rfl⟩ := z
      show zV G (eX7_back (g_rmv 7)) (0, 0) 7 [(0, .ref 76), (1, .int x), (2, .int y), (3, .int z)] [.int (-1000001)] (mm I J t) _
      refine zV_istore (lv' := [(0, .ref 76), (1, .int x), (2, .int y), (3, .int z), (4, .int (-1000001))]) dX7_back_7 rfl (by decide) rfl ?_
      refine zV_iload dX7_back_9 rfl 4 rfl ?_
      refine zV_if_eq (tgt := 23) dX7_back_11 rfl rfl  (fun z => absurd z (by decide)) (fun _ => ?_)
      refine zV_aload_n dX7_back_14 rfl 0 rfl rfl ?_
      refine zV_iload dX7_back_15 rfl 4 rfl ?_
      refine zV_callV (E' := eX7_finding (g_rmv 0)) (av := [.int (-1000001)]) (st := []) (b := 76) dX7_back_17 rfl (k_RX7_87 _) rfl ⟨by decide, by decide⟩ ⟨by decide, by decide⟩ (Or.inl rfl) rfl (Nat.le_of_ble_eq_true rfl) rfl rfl rfl (m_finding (w := 0) (by decide) (by decide)) (fun r17 M17 z => ?_)
      obtain ⟨rfl, rfl⟩ := z
      show zV G (eX7_back (g_rmv 7)) (0, 0) 20 [(0, .ref 76), (1, .int x), (2, .int y), (3, .int z), (4, .int (-1000001))] [.int (fdg 0)] (mm (mTell I 0) J t) _
      refine zV_goto (tgt := 27) dX7_back_20 rfl ?_
      exact zV_ireturn dX7_back_27 rfl rfl (PM.tell hM (by decide) (by unfold op_back; rw [if_pos h0, if_neg h1]) scM.rf)
  · show zV G (eX7_back (g_rmv 7)) (0, 0) 0 [(0, .ref 76), (1, .int x), (2, .int y), (3, .int z)] [] (mm I J t) _
    refine zV_aload_n dX7_back_0 rfl 0 rfl rfl ?_
    refine zV_iload_n dX7_back_1 rfl 1 rfl rfl ?_
    refine zV_iload_n dX7_back_2 rfl 2 rfl rfl ?_
    refine zV_iload_n dX7_back_3 rfl 3 rfl rfl ?_
    refine zV_callV (E' := eX7_refuses (g_rmv 6)) (av := [.int x, .int y, .int z]) (st := []) (b := 76) dX7_back_4 rfl (k_RX7_198 _) rfl ⟨by decide, by decide⟩ ⟨by decide, by decide⟩ (Or.inl rfl) rfl (Nat.le_of_ble_eq_true rfl) rfl rfl rfl (m_rf0 h0) (fun r4 M4 z => ?_)
    obtain ⟨rfl, rfl⟩ := z
    show zV G (eX7_back (g_rmv 7)) (0, 0) 7 [(0, .ref 76), (1, .int x), (2, .int y), (3, .int z)] [.int (-1000001)] (mm I J t) _
    refine zV_istore (lv' := [(0, .ref 76), (1, .int x), (2, .int y), (3, .int z), (4, .int (-1000001))]) dX7_back_7 rfl (by decide) rfl ?_
    refine zV_iload dX7_back_9 rfl 4 rfl ?_
    refine zV_if_eq (tgt := 23) dX7_back_11 rfl rfl  (fun z => absurd z (by decide)) (fun _ => ?_)
    refine zV_aload_n dX7_back_14 rfl 0 rfl rfl ?_
    refine zV_iload dX7_back_15 rfl 4 rfl ?_
    refine zV_callV (E' := eX7_finding (g_rmv 0)) (av := [.int (-1000001)]) (st := []) (b := 76) dX7_back_17 rfl (k_RX7_87 _) rfl ⟨by decide, by decide⟩ ⟨by decide, by decide⟩ (Or.inl rfl) rfl (Nat.le_of_ble_eq_true rfl) rfl rfl rfl (m_finding (w := 0) (by decide) (by decide)) (fun r17 M17 z => ?_)
    obtain ⟨rfl, rfl⟩ := z
    show zV G (eX7_back (g_rmv 7)) (0, 0) 20 [(0, .ref 76), (1, .int x), (2, .int y), (3, .int z), (4, .int (-1000001))] [.int (fdg 0)] (mm (mTell I 0) J t) _
    refine zV_goto (tgt := 27) dX7_back_20 rfl ?_
    exact zV_ireturn dX7_back_27 rfl rfl (PM.tell hM (by decide) (by unfold op_back; rw [if_neg h0]) scM.rf)
