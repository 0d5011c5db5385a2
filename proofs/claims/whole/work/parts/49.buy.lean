/-! buy: both classes -/
set_option maxRecDepth 100000 in
theorem p_buy {G : mG} {I : Nat → Nat → Int32} {J : Nat → Nat → Int64} {t : Nat} {B : Nat} {S : aS} (hC : InvC I S) (hw : wfS B S) (hB : B + 4 < 1000000) {x y z : Int32} : zC G yX6_buy (eX6_buy (g_rmv 6)) [.ref 0, .int x, .int y, .int z] (mm I J t) (fun r M => PC I (op_buy S x y z) r M) := by
  refine zC_of (by decide +kernel) rfl (by decide) (Nat.le_of_ble_eq_true rfl) ?_
  have n10 := hw.1.1
  show zV G (eX6_buy (g_rmv 6)) (0, 0) 0 [(0, .ref 0), (1, .int x), (2, .int y), (3, .int z)] [] (mm I J t) _
  by_cases h0 : twoP x y
  · by_cases h1 : inR z 999
    · obtain ⟨p, q, hp, hq, hpq, rfl, rfl⟩ := z_two h0
      obtain ⟨v, hv, rfl⟩ := (inR_iff (by decide)).mp h1
      cases eo : ld_best S.1 p q v with
      | none =>
        show zV G (eX6_buy (g_rmv 6)) (0, 0) 0 [(0, .ref 0), (1, .int (nI p)), (2, .int (nI q)), (3, .int (nI v))] [] (mm I J t) _
        refine zV_aload_n dX6_buy_0 rfl 0 rfl rfl ?_
        refine zV_iload_n dX6_buy_1 rfl 1 rfl rfl ?_
        refine zV_iload_n dX6_buy_2 rfl 2 rfl rfl ?_
        refine zV_iload_n dX6_buy_3 rfl 3 rfl rfl ?_
        refine zV_callV (E' := eX6_seekPayment (g_rmv 5)) (av := [.int (nI p), .int (nI q), .int (nI v)]) (st := []) (b := 0) dX6_buy_4 rfl (k_RX6_168 _) rfl ⟨by decide, by decide⟩ ⟨by decide, by decide⟩ (Or.inl rfl) rfl (Nat.le_of_ble_eq_true rfl) rfl rfl rfl (c_sp3 hC hw hp hq hpq hv eo) (fun r4 M4 z => ?_)
        obtain ⟨I4, rfl, rfl, hF4⟩ := z
        show zV G (eX6_buy (g_rmv 6)) (0, 0) 7 [(0, .ref 0), (1, .int (nI p)), (2, .int (nI q)), (3, .int (nI v))] [.int (-1000004)] (mm I4 J t) _
        refine zV_istore (lv' := [(0, .ref 0), (1, .int (nI p)), (2, .int (nI q)), (3, .int (nI v)), (4, .int (-1000004))]) dX6_buy_7 rfl (by decide) rfl ?_
        refine zV_iload dX6_buy_9 rfl 4 rfl ?_
        refine zV_if_eq (tgt := 21) dX6_buy_11 rfl rfl  (fun z => absurd z (by decide)) (fun _ => ?_)
        refine zV_aload_n dX6_buy_14 rfl 0 rfl rfl ?_
        refine zV_iload dX6_buy_15 rfl 4 rfl ?_
        refine zV_callV (E' := eX6_tell (g_rmv 1)) (av := [.int (-1000004)]) (st := []) (b := 0) dX6_buy_17 rfl (k_RX6_70 _) rfl ⟨by decide, by decide⟩ ⟨by decide, by decide⟩ (Or.inl rfl) rfl (Nat.le_of_ble_eq_true rfl) rfl rfl rfl (c_tell (w := 3) (by decide) (by decide)) (fun r17 M17 z => ?_)
        obtain ⟨rfl, rfl⟩ := z
        show zV G (eX6_buy (g_rmv 6)) (0, 0) 20 [(0, .ref 0), (1, .int (nI p)), (2, .int (nI q)), (3, .int (nI v)), (4, .int (-1000004))] [.int (fdg 3)] (mm (up2 I4 67 3 (I4 67 3 + nI 1)) J t) _
        exact zV_ireturn dX6_buy_20 rfl rfl (PC.tell (hC.mv hw (fun i a _ => hF4 i (by unfold scr at a; omega))) hw (by unfold op_buy; rw [if_pos h0, if_pos h1, tn_nI (show p < 2 ^ 31 by omega), tn_nI (show q < 2 ^ 31 by omega), tn_nI (show v < 2 ^ 31 by omega), eo]) (fun i hi => hF4 i (by omega)))
      | some bb =>
        have g1 := gv_lt n10 p bb
        have g2 := gv_lt n10 q bb
        show zV G (eX6_buy (g_rmv 6)) (0, 0) 0 [(0, .ref 0), (1, .int (nI p)), (2, .int (nI q)), (3, .int (nI v))] [] (mm I J t) _
        refine zV_aload_n dX6_buy_0 rfl 0 rfl rfl ?_
        refine zV_iload_n dX6_buy_1 rfl 1 rfl rfl ?_
        refine zV_iload_n dX6_buy_2 rfl 2 rfl rfl ?_
        refine zV_iload_n dX6_buy_3 rfl 3 rfl rfl ?_
        refine zV_callV (E' := eX6_seekPayment (g_rmv 5)) (av := [.int (nI p), .int (nI q), .int (nI v)]) (st := []) (b := 0) dX6_buy_4 rfl (k_RX6_168 _) rfl ⟨by decide, by decide⟩ ⟨by decide, by decide⟩ (Or.inl rfl) rfl (Nat.le_of_ble_eq_true rfl) rfl rfl rfl (c_spF hC hw hp hq hpq hv eo) (fun r4 M4 z => ?_)
        obtain ⟨I4, rfl, rfl, hF4, hG4, hK4, hC4⟩ := z
        show zV G (eX6_buy (g_rmv 6)) (0, 0) 7 [(0, .ref 0), (1, .int (nI p)), (2, .int (nI q)), (3, .int (nI v))] [.int (nI 0)] (mm I4 J t) _
        refine zV_istore (lv' := [(0, .ref 0), (1, .int (nI p)), (2, .int (nI q)), (3, .int (nI v)), (4, .int (nI 0))]) dX6_buy_7 rfl (by decide) rfl ?_
        refine zV_iload dX6_buy_9 rfl 4 rfl ?_
        refine zN_if_eq (tgt := 21) dX6_buy_11 rfl rfl (by decide) (fun _ => ?_) (fun z => absurd z (by decide))
        refine zV_aload_n dX6_buy_21 rfl 0 rfl rfl ?_
        refine zV_getr (q' := 1) 0 dX6_buy_22 rfl fl_RX6_12 rfl (by decide) rfl rfl ?_
        refine zV_aload_n dX6_buy_25 rfl 0 rfl rfl ?_
        refine zV_getr (q' := 61) 9 dX6_buy_26 rfl fl_RX6_57 rfl (by decide) rfl rfl ?_
        refine zV_getI (x := (nI (gv S.1 p bb))) 6 dX6_buy_29 rfl fl_RX6_174 rfl (by decide) rfl hG4 ?_
        refine zV_iload_n dX6_buy_32 rfl 2 rfl rfl ?_
        refine zV_aload_n dX6_buy_33 rfl 0 rfl rfl ?_
        refine zV_getr (q' := 61) 9 dX6_buy_34 rfl fl_RX6_57 rfl (by decide) rfl rfl ?_
        refine zV_getI (x := (nI (gv S.1 q bb))) 7 dX6_buy_37 rfl fl_RX6_177 rfl (by decide) rfl hK4 ?_
        refine zV_iload_n dX6_buy_40 rfl 1 rfl rfl ?_
        refine zV_callV (E' := eX1_exchange (g_rmv 4)) (av := [.int (nI (gv S.1 p bb)), .int (nI q), .int (nI (gv S.1 q bb)), .int (nI p)]) (st := []) (b := 1) dX6_buy_41 rfl (k_RX6_180 _) rfl ⟨by decide, by decide⟩ ⟨by decide, by decide⟩ (Or.inl rfl) rfl (Nat.le_of_ble_eq_true rfl) (sh_land (Or.inl rfl)) rfl rfl (c_exchange (g := gv S.1 p bb) (to := q) (k := gv S.1 q bb) (fr := p) (Or.inl rfl) (hC.1.mv n10 (fun i a c => hF4 i (by omega))) hw.1 (by omega) hq (by omega) hp (by omega)) (fun r41 M41 z => ?_)
        obtain ⟨I41, rfl, rfl, hA41, hF41⟩ := z
        show zV G (eX6_buy (g_rmv 6)) (0, 0) 44 [(0, .ref 0), (1, .int (nI p)), (2, .int (nI q)), (3, .int (nI v)), (4, .int (nI 0))] [] (mm I41 J t) _
        refine zV_aload_n dX6_buy_44 rfl 0 rfl rfl ?_
        refine zV_getr (q' := 61) 9 dX6_buy_45 rfl fl_RX6_57 rfl (by decide) rfl rfl ?_
        refine zV_getI (x := (cs S.1 p q bb)) 8 dX6_buy_48 rfl fl_RX6_171 rfl (by decide) rfl (by rw [hF41 61 (by omega)]; exact hC4) ?_
        exact zV_ireturn dX6_buy_51 rfl rfl (PC.land hC hw (by unfold op_buy; rw [if_pos h0, if_pos h1, tn_nI (show p < 2 ^ 31 by omega), tn_nI (show q < 2 ^ 31 by omega), tn_nI (show v < 2 ^ 31 by omega), eo]; rfl) hA41 (fun i a b => (hF41 i (by omega)).trans (hF4 i (by unfold scr at b; omega))))
    · show zV G (eX6_buy (g_rmv 6)) (0, 0) 0 [(0, .ref 0), (1, .int x), (2, .int y), (3, .int z)] [] (mm I J t) _
      refine zV_aload_n dX6_buy_0 rfl 0 rfl rfl ?_
      refine zV_iload_n dX6_buy_1 rfl 1 rfl rfl ?_
      refine zV_iload_n dX6_buy_2 rfl 2 rfl rfl ?_
      refine zV_iload_n dX6_buy_3 rfl 3 rfl rfl ?_
      refine zV_callV (E' := eX6_seekPayment (g_rmv 5)) (av := [.int x, .int y, .int z]) (st := []) (b := 0) dX6_buy_4 rfl (k_RX6_168 _) rfl ⟨by decide, by decide⟩ ⟨by decide, by decide⟩ (Or.inl rfl) rfl (Nat.le_of_ble_eq_true rfl) rfl rfl rfl (c_sp1 h0 h1) (fun r4 M4 z => ?_)
      obtain ⟨rfl, rfl⟩ := z
      show zV G (eX6_buy (g_rmv 6)) (0, 0) 7 [(0, .ref 0), (1, .int x), (2, .int y), (3, .int z)] [.int (-1000001)] (mm I J t) _
      refine zV_istore (lv' := [(0, .ref 0), (1, .int x), (2, .int y), (3, .int z), (4, .int (-1000001))]) dX6_buy_7 rfl (by decide) rfl ?_
      refine zV_iload dX6_buy_9 rfl 4 rfl ?_
      refine zV_if_eq (tgt := 21) dX6_buy_11 rfl rfl  (fun z => absurd z (by decide)) (fun _ => ?_)
      refine zV_aload_n dX6_buy_14 rfl 0 rfl rfl ?_
      refine zV_iload dX6_buy_15 rfl 4 rfl ?_
      refine zV_callV (E' := eX6_tell (g_rmv 1)) (av := [.int (-1000001)]) (st := []) (b := 0) dX6_buy_17 rfl (k_RX6_70 _) rfl ⟨by decide, by decide⟩ ⟨by decide, by decide⟩ (Or.inl rfl) rfl (Nat.le_of_ble_eq_true rfl) rfl rfl rfl (c_tell (w := 0) (by decide) (by decide)) (fun r17 M17 z => ?_)
      obtain ⟨rfl, rfl⟩ := z
      show zV G (eX6_buy (g_rmv 6)) (0, 0) 20 [(0, .ref 0), (1, .int x), (2, .int y), (3, .int z), (4, .int (-1000001))] [.int (fdg 0)] (mm (up2 I 67 0 (I 67 0 + nI 1)) J t) _
      exact zV_ireturn dX6_buy_20 rfl rfl (PC.tell hC hw (by unfold op_buy; rw [if_pos h0, if_neg h1]) (fun _ _ => rfl))
  · show zV G (eX6_buy (g_rmv 6)) (0, 0) 0 [(0, .ref 0), (1, .int x), (2, .int y), (3, .int z)] [] (mm I J t) _
    refine zV_aload_n dX6_buy_0 rfl 0 rfl rfl ?_
    refine zV_iload_n dX6_buy_1 rfl 1 rfl rfl ?_
    refine zV_iload_n dX6_buy_2 rfl 2 rfl rfl ?_
    refine zV_iload_n dX6_buy_3 rfl 3 rfl rfl ?_
    refine zV_callV (E' := eX6_seekPayment (g_rmv 5)) (av := [.int x, .int y, .int z]) (st := []) (b := 0) dX6_buy_4 rfl (k_RX6_168 _) rfl ⟨by decide, by decide⟩ ⟨by decide, by decide⟩ (Or.inl rfl) rfl (Nat.le_of_ble_eq_true rfl) rfl rfl rfl (c_sp0 h0) (fun r4 M4 z => ?_)
    obtain ⟨rfl, rfl⟩ := z
    show zV G (eX6_buy (g_rmv 6)) (0, 0) 7 [(0, .ref 0), (1, .int x), (2, .int y), (3, .int z)] [.int (-1000001)] (mm I J t) _
    refine zV_istore (lv' := [(0, .ref 0), (1, .int x), (2, .int y), (3, .int z), (4, .int (-1000001))]) dX6_buy_7 rfl (by decide) rfl ?_
    refine zV_iload dX6_buy_9 rfl 4 rfl ?_
    refine zV_if_eq (tgt := 21) dX6_buy_11 rfl rfl  (fun z => absurd z (by decide)) (fun _ => ?_)
    refine zV_aload_n dX6_buy_14 rfl 0 rfl rfl ?_
    refine zV_iload dX6_buy_15 rfl 4 rfl ?_
    refine zV_callV (E' := eX6_tell (g_rmv 1)) (av := [.int (-1000001)]) (st := []) (b := 0) dX6_buy_17 rfl (k_RX6_70 _) rfl ⟨by decide, by decide⟩ ⟨by decide, by decide⟩ (Or.inl rfl) rfl (Nat.le_of_ble_eq_true rfl) rfl rfl rfl (c_tell (w := 0) (by decide) (by decide)) (fun r17 M17 z => ?_)
    obtain ⟨rfl, rfl⟩ := z
    show zV G (eX6_buy (g_rmv 6)) (0, 0) 20 [(0, .ref 0), (1, .int x), (2, .int y), (3, .int z), (4, .int (-1000001))] [.int (fdg 0)] (mm (up2 I 67 0 (I 67 0 + nI 1)) J t) _
    exact zV_ireturn dX6_buy_20 rfl rfl (PC.tell hC hw (by unfold op_buy; rw [if_neg h0]) (fun _ _ => rfl))

set_option maxRecDepth 100000 in
theorem m_bothPaid {G : mG} {I : Nat → Nat → Int32} {J : Nat → Nat → Int64} {t : Nat} {B : Nat} {σ : aL} (hR : absR I 77 σ) (hW : wfL B σ) {p q bb : Nat} {co : Int32} (hp : p < 4) (hq : q < 4) (hB : B + 4 < 1000000) (hG : I 76 6 = nI (gv σ p bb)) (hK : I 76 7 = nI (gv σ q bb)) (hCo : I 76 8 = co) : zC G yX7_bothPaid (eX7_bothPaid (g_rmv 6)) [.ref 76, .int (nI p), .int (nI q)] (mm I J t) (fun r M => ∃ I', r = none ∧ M = mm I' J t ∧ absR I' 77 (ld_swap σ p q bb) ∧ frM I I') := by
  refine zC_of (by decide +kernel) rfl (by decide) (Nat.le_of_ble_eq_true rfl) ?_
  have n10 := hW.1
  have g1 := gv_lt n10 p bb
  have g2 := gv_lt n10 q bb
  show zV G (eX7_bothPaid (g_rmv 6)) (0, 0) 0 [(0, .ref 76), (1, .int (nI p)), (2, .int (nI q))] [] (mm I J t) _
  refine zV_aload_n dX7_bothPaid_0 rfl 0 rfl rfl ?_
  refine zV_getI (x := (nI (gv σ p bb))) 6 dX7_bothPaid_1 rfl fl_RX7_179 rfl (by decide) rfl hG ?_
  refine zV_istore_n (lv' := [(0, .ref 76), (1, .int (nI p)), (2, .int (nI q)), (3, .int (nI (gv σ p bb)))]) dX7_bothPaid_4 rfl rfl (by decide) rfl ?_
  refine zV_aload_n dX7_bothPaid_5 rfl 0 rfl rfl ?_
  refine zV_getI (x := (nI (gv σ q bb))) 7 dX7_bothPaid_6 rfl fl_RX7_189 rfl (by decide) rfl hK ?_
  refine zV_istore (lv' := [(0, .ref 76), (1, .int (nI p)), (2, .int (nI q)), (3, .int (nI (gv σ p bb))), (4, .int (nI (gv σ q bb)))]) dX7_bothPaid_9 rfl (by decide) rfl ?_
  refine zV_aload_n dX7_bothPaid_11 rfl 0 rfl rfl ?_
  refine zV_iload_n dX7_bothPaid_12 rfl 3 rfl rfl ?_
  refine zV_iload_n dX7_bothPaid_13 rfl 2 rfl rfl ?_
  refine zV_callV (E' := eX7_paidAll (g_rmv 5)) (av := [.int (nI (gv σ p bb)), .int (nI q)]) (st := []) (b := 76) dX7_bothPaid_14 rfl (k_RX7_163 _) rfl ⟨by decide, by decide⟩ ⟨by decide, by decide⟩ (Or.inl rfl) rfl (Nat.le_of_ble_eq_true rfl) rfl rfl rfl (m_paidAll (s := gv σ p bb) (to := q) hR hW (by omega) hq (by omega)) (fun r14 M14 z => ?_)
  obtain ⟨I14, rfl, rfl, hR14, hF14⟩ := z
  have hW14 := wf_payA (s := gv σ p bb) (to := q) hW hq (by omega)
  show zV G (eX7_bothPaid (g_rmv 6)) (0, 0) 17 [(0, .ref 76), (1, .int (nI p)), (2, .int (nI q)), (3, .int (nI (gv σ p bb))), (4, .int (nI (gv σ q bb)))] [.int (nI (ld_sum σ (gv σ p bb)))] (mm I14 J t) _
  refine zV_aload_n dX7_bothPaid_17 rfl 0 rfl rfl ?_
  refine zV_iload dX7_bothPaid_18 rfl 4 rfl ?_
  refine zV_iload_n dX7_bothPaid_20 rfl 1 rfl rfl ?_
  refine zV_callV (E' := eX7_paidAll (g_rmv 5)) (av := [.int (nI (gv σ q bb)), .int (nI p)]) (st := [.int (nI (ld_sum σ (gv σ p bb)))]) (b := 76) dX7_bothPaid_21 rfl (k_RX7_163 _) rfl ⟨by decide, by decide⟩ ⟨by decide, by decide⟩ (Or.inl rfl) rfl (Nat.le_of_ble_eq_true rfl) rfl rfl rfl (m_paidAll (s := gv σ q bb) (to := p) hR14 hW14 (by omega) hp (by omega)) (fun r21 M21 z => ?_)
  obtain ⟨I21, rfl, rfl, hR21, hF21⟩ := z
  have s1 := ld_sum_le hW (gv σ p bb)
  have s2 := ld_sum_le hW14 (gv σ q bb)
  show zV G (eX7_bothPaid (g_rmv 6)) (0, 0) 24 [(0, .ref 76), (1, .int (nI p)), (2, .int (nI q)), (3, .int (nI (gv σ p bb))), (4, .int (nI (gv σ q bb)))] [.int (nI (ld_sum (ld_payA σ (gv σ p bb) q) (gv σ q bb))), .int (nI (ld_sum σ (gv σ p bb)))] (mm I21 J t) _
  refine zA_iadd (z := (nI ((ld_sum σ (gv σ p bb)) + (ld_sum (ld_payA σ (gv σ p bb) q) (gv σ q bb))))) dX7_bothPaid_24 rfl  (nI_add _ _) ?_
  refine zV_istore (lv' := [(0, .ref 76), (1, .int (nI p)), (2, .int (nI q)), (3, .int (nI (gv σ p bb))), (4, .int (nI (gv σ q bb))), (5, .int (nI ((ld_sum σ (gv σ p bb)) + (ld_sum (ld_payA σ (gv σ p bb) q) (gv σ q bb)))))]) dX7_bothPaid_25 rfl (by decide) rfl ?_
  refine zV_aload_n dX7_bothPaid_27 rfl 0 rfl rfl ?_
  refine zV_dup dX7_bothPaid_28 rfl rfl ?_
  refine zV_getI (x := co) 8 dX7_bothPaid_29 rfl fl_RX7_183 rfl (by decide) rfl (by rw [hF21 76 (by decide), hF14 76 (by decide)]; exact hCo) ?_
  refine zV_iload dX7_bothPaid_32 rfl 5 rfl ?_
  refine zN_if_ge (tgt := 42) dX7_bothPaid_34 rfl (by omega) rfl ?_
  refine zV_iconst (v := (nI 0)) dX7_bothPaid_42 rfl rfl ?_
  refine zA_iadd (z := co) dX7_bothPaid_43 rfl  (Int32.add_zero _) ?_
  refine zV_puti 8 dX7_bothPaid_44 rfl fl_RX7_183 rfl (by decide) rfl rfl rfl ?_
  exact zV_return dX7_bothPaid_47 rfl (⟨_, rfl, rfl, hR21.mv (by funext k; exact up2_ni (by decide)), fun i hi => by
      by_cases e : i = 76
      · subst e; funext k; by_cases e8 : k = 8
        · rw [e8, up2_same, hCo]
        · rw [up2_nk e8, hF21 76 (by decide), hF14 76 (by decide)]
      · rw [← hF14 i hi, ← hF21 i hi]; funext k; exact up2_ni e⟩)

set_option maxRecDepth 100000 in
theorem q_buy {G : mG} {I : Nat → Nat → Int32} {J : Nat → Nat → Int64} {t : Nat} {B : Nat} {S : aS} (hM : InvM I S) (hw : wfS B S) (hB : B + 4 < 1000000) {x y z : Int32} : zC G yX7_buy (eX7_buy (g_rmv 7)) [.ref 76, .int x, .int y, .int z] (mm I J t) (fun r M => PM I (op_buy S x y z) r M) := by
  refine zC_of (by decide +kernel) rfl (by decide) (Nat.le_of_ble_eq_true rfl) ?_
  have n10 := hw.1.1
  show zV G (eX7_buy (g_rmv 7)) (0, 0) 0 [(0, .ref 76), (1, .int x), (2, .int y), (3, .int z)] [] (mm I J t) _
  by_cases h0 : twoP x y
  · by_cases h1 : inR z 999
    · obtain ⟨p, q, hp, hq, hpq, rfl, rfl⟩ := z_two h0
      obtain ⟨v, hv, rfl⟩ := (inR_iff (by decide)).mp h1
      cases eo : ld_best S.1 p q v with
      | none =>
        show zV G (eX7_buy (g_rmv 7)) (0, 0) 0 [(0, .ref 76), (1, .int (nI p)), (2, .int (nI q)), (3, .int (nI v))] [] (mm I J t) _
        refine zV_aload_n dX7_buy_0 rfl 0 rfl rfl ?_
        refine zV_iload_n dX7_buy_1 rfl 1 rfl rfl ?_
        refine zV_iload_n dX7_buy_2 rfl 2 rfl rfl ?_
        refine zV_iload_n dX7_buy_3 rfl 3 rfl rfl ?_
        refine zV_callV (E' := eX7_refuses (g_rmv 6)) (av := [.int (nI p), .int (nI q), .int (nI v)]) (st := []) (b := 76) dX7_buy_4 rfl (k_RX7_198 _) rfl ⟨by decide, by decide⟩ ⟨by decide, by decide⟩ (Or.inl rfl) rfl (Nat.le_of_ble_eq_true rfl) rfl rfl rfl (m_rf3 hM.1 hw.1 hp hq hpq hv eo) (fun r4 M4 z => ?_)
        obtain ⟨I4, rfl, rfl, hF4⟩ := z
        show zV G (eX7_buy (g_rmv 7)) (0, 0) 7 [(0, .ref 76), (1, .int (nI p)), (2, .int (nI q)), (3, .int (nI v))] [.int (-1000004)] (mm I4 J t) _
        refine zV_istore (lv' := [(0, .ref 76), (1, .int (nI p)), (2, .int (nI q)), (3, .int (nI v)), (4, .int (-1000004))]) dX7_buy_7 rfl (by decide) rfl ?_
        refine zV_iload dX7_buy_9 rfl 4 rfl ?_
        refine zV_if_eq (tgt := 21) dX7_buy_11 rfl rfl  (fun z => absurd z (by decide)) (fun _ => ?_)
        refine zV_aload_n dX7_buy_14 rfl 0 rfl rfl ?_
        refine zV_iload dX7_buy_15 rfl 4 rfl ?_
        refine zV_callV (E' := eX7_finding (g_rmv 0)) (av := [.int (-1000004)]) (st := []) (b := 76) dX7_buy_17 rfl (k_RX7_87 _) rfl ⟨by decide, by decide⟩ ⟨by decide, by decide⟩ (Or.inl rfl) rfl (Nat.le_of_ble_eq_true rfl) rfl rfl rfl (m_finding (w := 3) (by decide) (by decide)) (fun r17 M17 z => ?_)
        obtain ⟨rfl, rfl⟩ := z
        show zV G (eX7_buy (g_rmv 7)) (0, 0) 20 [(0, .ref 76), (1, .int (nI p)), (2, .int (nI q)), (3, .int (nI v)), (4, .int (-1000004))] [.int (fdg 3)] (mm (mTell I4 3) J t) _
        exact zV_ireturn dX7_buy_20 rfl rfl (PM.tell hM (by decide) (by unfold op_buy; rw [if_pos h0, if_pos h1, tn_nI (show p < 2 ^ 31 by omega), tn_nI (show q < 2 ^ 31 by omega), tn_nI (show v < 2 ^ 31 by omega), eo]) hF4.sc)
      | some bb =>
        have g1 := gv_lt n10 p bb
        have g2 := gv_lt n10 q bb
        show zV G (eX7_buy (g_rmv 7)) (0, 0) 0 [(0, .ref 76), (1, .int (nI p)), (2, .int (nI q)), (3, .int (nI v))] [] (mm I J t) _
        refine zV_aload_n dX7_buy_0 rfl 0 rfl rfl ?_
        refine zV_iload_n dX7_buy_1 rfl 1 rfl rfl ?_
        refine zV_iload_n dX7_buy_2 rfl 2 rfl rfl ?_
        refine zV_iload_n dX7_buy_3 rfl 3 rfl rfl ?_
        refine zV_callV (E' := eX7_refuses (g_rmv 6)) (av := [.int (nI p), .int (nI q), .int (nI v)]) (st := []) (b := 76) dX7_buy_4 rfl (k_RX7_198 _) rfl ⟨by decide, by decide⟩ ⟨by decide, by decide⟩ (Or.inl rfl) rfl (Nat.le_of_ble_eq_true rfl) rfl rfl rfl (m_rfF hM.1 hw.1 hp hq hpq hv eo) (fun r4 M4 z => ?_)
        obtain ⟨I4, rfl, rfl, hF4, hG4, hK4, hC4⟩ := z
        show zV G (eX7_buy (g_rmv 7)) (0, 0) 7 [(0, .ref 76), (1, .int (nI p)), (2, .int (nI q)), (3, .int (nI v))] [.int (nI 0)] (mm I4 J t) _
        refine zV_istore (lv' := [(0, .ref 76), (1, .int (nI p)), (2, .int (nI q)), (3, .int (nI v)), (4, .int (nI 0))]) dX7_buy_7 rfl (by decide) rfl ?_
        refine zV_iload dX7_buy_9 rfl 4 rfl ?_
        refine zN_if_eq (tgt := 21) dX7_buy_11 rfl rfl (by decide) (fun _ => ?_) (fun z => absurd z (by decide))
        refine zV_aload_n dX7_buy_21 rfl 0 rfl rfl ?_
        refine zV_iload_n dX7_buy_22 rfl 1 rfl rfl ?_
        refine zV_iload_n dX7_buy_23 rfl 2 rfl rfl ?_
        refine zV_callV (E' := eX7_bothPaid (g_rmv 6)) (av := [.int (nI p), .int (nI q)]) (st := []) (b := 76) dX7_buy_24 rfl (k_RX7_202 _) rfl ⟨by decide, by decide⟩ ⟨by decide, by decide⟩ (Or.inl rfl) rfl (Nat.le_of_ble_eq_true rfl) rfl rfl rfl (m_bothPaid (p := p) (q := q) (bb := bb) (hM.1.mv (hF4.1 77 (by decide))) hw.1 hp hq (by omega) hG4 hK4 hC4) (fun r24 M24 z => ?_)
        obtain ⟨I24, rfl, rfl, hR24, hF24⟩ := z
        show zV G (eX7_buy (g_rmv 7)) (0, 0) 27 [(0, .ref 76), (1, .int (nI p)), (2, .int (nI q)), (3, .int (nI v)), (4, .int (nI 0))] [] (mm I24 J t) _
        refine zV_aload_n dX7_buy_27 rfl 0 rfl rfl ?_
        refine zV_getI (x := (cs S.1 p q bb)) 8 dX7_buy_28 rfl fl_RX7_183 rfl (by decide) rfl (by rw [hF24 76 (by decide)]; exact hC4) ?_
        exact zV_ireturn dX7_buy_31 rfl rfl (PM.land hM (by unfold op_buy; rw [if_pos h0, if_pos h1, tn_nI (show p < 2 ^ 31 by omega), tn_nI (show q < 2 ^ 31 by omega), tn_nI (show v < 2 ^ 31 by omega), eo]) hF4.sc hR24 hF24)
    · show zV G (eX7_buy (g_rmv 7)) (0, 0) 0 [(0, .ref 76), (1, .int x), (2, .int y), (3, .int z)] [] (mm I J t) _
      refine zV_aload_n dX7_buy_0 rfl 0 rfl rfl ?_
      refine zV_iload_n dX7_buy_1 rfl 1 rfl rfl ?_
      refine zV_iload_n dX7_buy_2 rfl 2 rfl rfl ?_
      refine zV_iload_n dX7_buy_3 rfl 3 rfl rfl ?_
      refine zV_callV (E' := eX7_refuses (g_rmv 6)) (av := [.int x, .int y, .int z]) (st := []) (b := 76) dX7_buy_4 rfl (k_RX7_198 _) rfl ⟨by decide, by decide⟩ ⟨by decide, by decide⟩ (Or.inl rfl) rfl (Nat.le_of_ble_eq_true rfl) rfl rfl rfl (m_rf1 h0 h1) (fun r4 M4 z => ?_)
      obtain ⟨rfl, rfl⟩ := z
      show zV G (eX7_buy (g_rmv 7)) (0, 0) 7 [(0, .ref 76), (1, .int x), (2, .int y), (3, .int z)] [.int (-1000001)] (mm I J t) _
      refine zV_istore (lv' := [(0, .ref 76), (1, .int x), (2, .int y), (3, .int z), (4, .int (-1000001))]) dX7_buy_7 rfl (by decide) rfl ?_
      refine zV_iload dX7_buy_9 rfl 4 rfl ?_
      refine zV_if_eq (tgt := 21) dX7_buy_11 rfl rfl  (fun z => absurd z (by decide)) (fun _ => ?_)
      refine zV_aload_n dX7_buy_14 rfl 0 rfl rfl ?_
      refine zV_iload dX7_buy_15 rfl 4 rfl ?_
      refine zV_callV (E' := eX7_finding (g_rmv 0)) (av := [.int (-1000001)]) (st := []) (b := 76) dX7_buy_17 rfl (k_RX7_87 _) rfl ⟨by decide, by decide⟩ ⟨by decide, by decide⟩ (Or.inl rfl) rfl (Nat.le_of_ble_eq_true rfl) rfl rfl rfl (m_finding (w := 0) (by decide) (by decide)) (fun r17 M17 z => ?_)
      obtain ⟨rfl, rfl⟩ := z
      show zV G (eX7_buy (g_rmv 7)) (0, 0) 20 [(0, .ref 76), (1, .int x), (2, .int y), (3, .int z), (4, .int (-1000001))] [.int (fdg 0)] (mm (mTell I 0) J t) _
      exact zV_ireturn dX7_buy_20 rfl rfl (PM.tell hM (by decide) (by unfold op_buy; rw [if_pos h0, if_neg h1]) scM.rf)
  · show zV G (eX7_buy (g_rmv 7)) (0, 0) 0 [(0, .ref 76), (1, .int x), (2, .int y), (3, .int z)] [] (mm I J t) _
    refine zV_aload_n dX7_buy_0 rfl 0 rfl rfl ?_
    refine zV_iload_n dX7_buy_1 rfl 1 rfl rfl ?_
    refine zV_iload_n dX7_buy_2 rfl 2 rfl rfl ?_
    refine zV_iload_n dX7_buy_3 rfl 3 rfl rfl ?_
    refine zV_callV (E' := eX7_refuses (g_rmv 6)) (av := [.int x, .int y, .int z]) (st := []) (b := 76) dX7_buy_4 rfl (k_RX7_198 _) rfl ⟨by decide, by decide⟩ ⟨by decide, by decide⟩ (Or.inl rfl) rfl (Nat.le_of_ble_eq_true rfl) rfl rfl rfl (m_rf0 h0) (fun r4 M4 z => ?_)
    obtain ⟨rfl, rfl⟩ := z
    show zV G (eX7_buy (g_rmv 7)) (0, 0) 7 [(0, .ref 76), (1, .int x), (2, .int y), (3, .int z)] [.int (-1000001)] (mm I J t) _
    refine zV_istore (lv' := [(0, .ref 76), (1, .int x), (2, .int y), (3, .int z), (4, .int (-1000001))]) dX7_buy_7 rfl (by decide) rfl ?_
    refine zV_iload dX7_buy_9 rfl 4 rfl ?_
    refine zV_if_eq (tgt := 21) dX7_buy_11 rfl rfl  (fun z => absurd z (by decide)) (fun _ => ?_)
    refine zV_aload_n dX7_buy_14 rfl 0 rfl rfl ?_
    refine zV_iload dX7_buy_15 rfl 4 rfl ?_
    refine zV_callV (E' := eX7_finding (g_rmv 0)) (av := [.int (-1000001)]) (st := []) (b := 76) dX7_buy_17 rfl (k_RX7_87 _) rfl ⟨by decide, by decide⟩ ⟨by decide, by decide⟩ (Or.inl rfl) rfl (Nat.le_of_ble_eq_true rfl) rfl rfl rfl (m_finding (w := 0) (by decide) (by decide)) (fun r17 M17 z => ?_)
    obtain ⟨rfl, rfl⟩ := z
    show zV G (eX7_buy (g_rmv 7)) (0, 0) 20 [(0, .ref 76), (1, .int x), (2, .int y), (3, .int z), (4, .int (-1000001))] [.int (fdg 0)] (mm (mTell I 0) J t) _
    exact zV_ireturn dX7_buy_20 rfl rfl (PM.tell hM (by decide) (by unfold op_buy; rw [if_neg h0]) scM.rf)
