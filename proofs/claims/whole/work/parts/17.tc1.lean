/-! THE CLASS: small methods, coins, pay, there -/
set_option maxRecDepth 100000 in
theorem c_isPurse {G : mG} {I : Nat → Nat → Int32} {J : Nat → Nat → Int64} {t : Nat} {x : Int32} : zC G yX6_isPurse (eX6_isPurse (g_rmv 1)) [.int x] (mm I J t) (fun r M => r = some (.int (b2 (inR x 3))) ∧ M = mm I J t) := by
  refine zC_of (by decide +kernel) rfl (by decide) (Nat.le_of_ble_eq_true rfl) ?_
  show zV G (eX6_isPurse (g_rmv 1)) (0, 0) 0 [(0, .int x)] [] (mm I J t) _
  refine zV_iload_n dX6_isPurse_0 rfl 0 rfl rfl ?_
  refine zV_iconst (v := (nI 3)) dX6_isPurse_1 rfl rfl ?_
  refine zV_callS (E' := eX6_isWithin (g_rmv 0)) (av := [.int x, .int (nI 3)]) (st := []) dX6_isPurse_2 rfl (k_RX6_65 _) rfl ⟨by decide, by decide⟩ ⟨by decide, by decide⟩ (Or.inl rfl) rfl (Nat.le_of_ble_eq_true rfl) (c_isWithin (x := x) (y := (nI 3))) (fun r2 M2 z => ?_)
  obtain ⟨rfl, rfl⟩ := z
  show zV G (eX6_isPurse (g_rmv 1)) (0, 0) 5 [(0, .int x)] [.int (b2 (0 ≤ x ∧ x ≤ (nI 3)))] (mm I J t) _
  exact zV_ireturn dX6_isPurse_5 rfl (b2_n _) (⟨rfl, rfl⟩)

set_option maxRecDepth 100000 in
theorem c_isSheet {G : mG} {I : Nat → Nat → Int32} {J : Nat → Nat → Int64} {t : Nat} {x : Int32} : zC G yX6_isSheet (eX6_isSheet (g_rmv 1)) [.int x] (mm I J t) (fun r M => r = some (.int (b2 (inR x 3))) ∧ M = mm I J t) := by
  refine zC_of (by decide +kernel) rfl (by decide) (Nat.le_of_ble_eq_true rfl) ?_
  show zV G (eX6_isSheet (g_rmv 1)) (0, 0) 0 [(0, .int x)] [] (mm I J t) _
  refine zV_iload_n dX6_isSheet_0 rfl 0 rfl rfl ?_
  refine zV_iconst (v := (nI 3)) dX6_isSheet_1 rfl rfl ?_
  refine zV_callS (E' := eX6_isWithin (g_rmv 0)) (av := [.int x, .int (nI 3)]) (st := []) dX6_isSheet_2 rfl (k_RX6_65 _) rfl ⟨by decide, by decide⟩ ⟨by decide, by decide⟩ (Or.inl rfl) rfl (Nat.le_of_ble_eq_true rfl) (c_isWithin (x := x) (y := (nI 3))) (fun r2 M2 z => ?_)
  obtain ⟨rfl, rfl⟩ := z
  show zV G (eX6_isSheet (g_rmv 1)) (0, 0) 5 [(0, .int x)] [.int (b2 (0 ≤ x ∧ x ≤ (nI 3)))] (mm I J t) _
  exact zV_ireturn dX6_isSheet_5 rfl (b2_n _) (⟨rfl, rfl⟩)

set_option maxRecDepth 100000 in
theorem c_two {G : mG} {I : Nat → Nat → Int32} {J : Nat → Nat → Int64} {t : Nat} {x y : Int32} : zC G yX6_areTwoPurses (eX6_areTwoPurses (g_rmv 2)) [.int x, .int y] (mm I J t) (fun r M => r = some (.int (b2 (twoP x y))) ∧ M = mm I J t) := by
  refine zC_of (by decide +kernel) rfl (by decide) (Nat.le_of_ble_eq_true rfl) ?_
  show zV G (eX6_areTwoPurses (g_rmv 2)) (0, 0) 0 [(0, .int x), (1, .int y)] [] (mm I J t) _
  refine zV_iload_n dX6_areTwoPurses_0 rfl 0 rfl rfl ?_
  refine zV_callS (E' := eX6_isPurse (g_rmv 1)) (av := [.int x]) (st := []) dX6_areTwoPurses_1 rfl (k_RX6_124 _) rfl ⟨by decide, by decide⟩ ⟨by decide, by decide⟩ (Or.inl rfl) rfl (Nat.le_of_ble_eq_true rfl) (c_isPurse (x := x)) (fun r1 M1 z => ?_)
  obtain ⟨rfl, rfl⟩ := z
  show zV G (eX6_areTwoPurses (g_rmv 2)) (0, 0) 4 [(0, .int x), (1, .int y)] [.int (b2 (inR x 3))] (mm I J t) _
  refine zB_if_eq (tgt := 23) dX6_areTwoPurses_4 rfl rfl  (fun h4 => ?_) (fun h4 => ?_)
  · refine zV_iconst (v := (nI 0)) dX6_areTwoPurses_23 rfl rfl ?_
    exact zV_ireturn dX6_areTwoPurses_24 rfl rfl (⟨z_b0 (fun q => h4 q.1), rfl⟩)
  · refine zV_iload_n dX6_areTwoPurses_7 rfl 1 rfl rfl ?_
    refine zV_callS (E' := eX6_isPurse (g_rmv 1)) (av := [.int y]) (st := []) dX6_areTwoPurses_8 rfl (k_RX6_124 _) rfl ⟨by decide, by decide⟩ ⟨by decide, by decide⟩ (Or.inl rfl) rfl (Nat.le_of_ble_eq_true rfl) (c_isPurse (x := y)) (fun r8 M8 z => ?_)
    obtain ⟨rfl, rfl⟩ := z
    show zV G (eX6_areTwoPurses (g_rmv 2)) (0, 0) 11 [(0, .int x), (1, .int y)] [.int (b2 (inR y 3))] (mm I J t) _
    refine zB_if_eq (tgt := 23) dX6_areTwoPurses_11 rfl rfl  (fun h11 => ?_) (fun h11 => ?_)
    · refine zV_iconst (v := (nI 0)) dX6_areTwoPurses_23 rfl rfl ?_
      exact zV_ireturn dX6_areTwoPurses_24 rfl rfl (⟨z_b0 (fun q => h11 q.2.1), rfl⟩)
    · refine zV_iload_n dX6_areTwoPurses_14 rfl 0 rfl rfl ?_
      refine zV_iload_n dX6_areTwoPurses_15 rfl 1 rfl rfl ?_
      refine zV_icmp_eq (tgt := 23) dX6_areTwoPurses_16 rfl rfl  (fun h16 => ?_) (fun h16 => ?_)
      · refine zV_iconst (v := (nI 0)) dX6_areTwoPurses_23 rfl rfl ?_
        exact zV_ireturn dX6_areTwoPurses_24 rfl rfl (⟨z_b0 (fun q => q.2.2 h16), rfl⟩)
      · refine zV_iconst (v := (nI 1)) dX6_areTwoPurses_19 rfl rfl ?_
        refine zV_goto (tgt := 24) dX6_areTwoPurses_20 rfl ?_
        exact zV_ireturn dX6_areTwoPurses_24 rfl rfl (⟨z_b1 ⟨h4, h11, h16⟩, rfl⟩)

set_option maxRecDepth 100000 in
theorem c_mostOf {G : mG} {I : Nat → Nat → Int32} {J : Nat → Nat → Int64} {t : Nat} {x : Int32} : zC G yX6_mostOf (eX6_mostOf (g_rmv 0)) [.int x] (mm I J t) (fun r M => r = some (.int (mostOf x)) ∧ M = mm I J t) := by
  refine zC_of (by decide +kernel) rfl (by decide) (Nat.le_of_ble_eq_true rfl) ?_
  show zV G (eX6_mostOf (g_rmv 0)) (0, 0) 0 [(0, .int x)] [] (mm I J t) _
  refine zV_iload_n dX6_mostOf_0 rfl 0 rfl rfl ?_
  refine zX_tbl (lo' := 0) (hi' := 4) (td := 49) dX6_mostOf_1 rfl rfl (by decide) rfl (fun h1 => ?_) (fun i hi1 hi2 h1 => ?_)
  · refine zV_iconst (v := (-1)) dX6_mostOf_49 rfl rfl ?_
    exact zV_ireturn dX6_mostOf_50 rfl rfl (⟨by (have n0 := h1 0 (by decide) (by decide)); (have n1 := h1 1 (by decide) (by decide)); (have n2 := h1 2 (by decide) (by decide)); (have n3 := h1 3 (by decide) (by decide)); (have n4 := h1 4 (by decide) (by decide)); simp only [mostOf, n0, n1, n2, n3, n4, if_false], rfl⟩)
  · rcases (show i = 0 ∨ i = 1 ∨ i = 2 ∨ i = 3 ∨ i = 4 by omega) with rfl | rfl | rfl | rfl | rfl
    · refine ⟨_, 36, rfl, rfl, ?_⟩
      refine zV_bipush (v := (nI 6)) dX6_mostOf_36 rfl rfl ?_
      exact zV_ireturn dX6_mostOf_38 rfl rfl (⟨by subst h1; decide, rfl⟩)
    · refine ⟨_, 39, rfl, rfl, ?_⟩
      refine zV_iconst (v := (nI 3)) dX6_mostOf_39 rfl rfl ?_
      exact zV_ireturn dX6_mostOf_40 rfl rfl (⟨by subst h1; decide, rfl⟩)
    · refine ⟨_, 41, rfl, rfl, ?_⟩
      refine zV_bipush (v := (nI 99)) dX6_mostOf_41 rfl rfl ?_
      exact zV_ireturn dX6_mostOf_43 rfl rfl (⟨by subst h1; decide, rfl⟩)
    · refine ⟨_, 44, rfl, rfl, ?_⟩
      refine zV_bipush (v := (nI 99)) dX6_mostOf_44 rfl rfl ?_
      exact zV_ireturn dX6_mostOf_46 rfl rfl (⟨by subst h1; decide, rfl⟩)
    · refine ⟨_, 47, rfl, rfl, ?_⟩
      refine zV_iconst (v := (nI 1)) dX6_mostOf_47 rfl rfl ?_
      exact zV_ireturn dX6_mostOf_48 rfl rfl (⟨by subst h1; decide, rfl⟩)

set_option maxRecDepth 100000 in
theorem c_tell {G : mG} {I : Nat → Nat → Int32} {J : Nat → Nat → Int64} {t : Nat} {x : Int32} {w : Nat} (hx : x = fdg w) (hw : w < 7) : zC G yX6_tell (eX6_tell (g_rmv 1)) [.ref 0, .int x] (mm I J t) (fun r M => r = some (.int (fdg w)) ∧ M = mm (up2 I 67 w (I 67 w + nI 1)) J t) := by
  refine zC_of (by decide +kernel) rfl (by decide) (Nat.le_of_ble_eq_true rfl) ?_
  show zV G (eX6_tell (g_rmv 1)) (0, 0) 0 [(0, .ref 0), (1, .int x)] [] (mm I J t) _
  refine zV_ldc (v := (-1000001)) dX6_tell_0 rfl tw264 ?_
  refine zV_iload_n dX6_tell_2 rfl 1 rfl rfl ?_
  refine zA_isub (z := (nI w)) dX6_tell_3 rfl  (by rw [hx]; exact z_fd hw) ?_
  refine zV_istore_n (lv' := [(0, .ref 0), (1, .int x), (2, .int (nI w))]) dX6_tell_4 rfl rfl (by decide) rfl ?_
  refine zV_iload_n dX6_tell_5 rfl 2 rfl rfl ?_
  refine zV_bipush (v := (nI 6)) dX6_tell_6 rfl rfl ?_
  refine zV_callS (E' := eX6_isWithin (g_rmv 0)) (av := [.int (nI w), .int (nI 6)]) (st := []) dX6_tell_8 rfl (k_RX6_65 _) rfl ⟨by decide, by decide⟩ ⟨by decide, by decide⟩ (Or.inl rfl) rfl (Nat.le_of_ble_eq_true rfl) (c_isWithin (x := (nI w)) (y := (nI 6))) (fun r8 M8 z => ?_)
  obtain ⟨rfl, rfl⟩ := z
  show zV G (eX6_tell (g_rmv 1)) (0, 0) 11 [(0, .ref 0), (1, .int x), (2, .int (nI w))] [.int (b2 (0 ≤ (nI w) ∧ (nI w) ≤ (nI 6)))] (mm I J t) _
  refine zB_if_eq (tgt := 24) dX6_tell_11 rfl rfl  (fun z => absurd z (fun q => q ⟨nI_pos' (by omega), nI_le (by omega) (by omega)⟩)) (fun _ => ?_)
  refine zV_aload_n dX6_tell_14 rfl 0 rfl rfl ?_
  refine zV_getr (q' := 67) 10 dX6_tell_15 rfl fl_RX6_61 rfl (by decide) rfl rfl ?_
  refine zV_iload_n dX6_tell_18 rfl 2 rfl rfl ?_
  refine zV_dup2 dX6_tell_19 rfl rfl rfl ?_
  refine zV_iald (x := (I 67 w)) w dX6_tell_20 rfl rfl rfl (by omega) (by decide) rfl ?_
  refine zV_iconst (v := (nI 1)) dX6_tell_21 rfl rfl ?_
  refine zA_iadd (z := ((I 67 w) + (nI 1))) dX6_tell_22 rfl  (rfl) ?_
  refine zV_iastore w dX6_tell_23 rfl rfl rfl (by omega) (by decide)  ?_
  refine zV_iload_n dX6_tell_24 rfl 1 rfl rfl ?_
  exact zV_ireturn dX6_tell_25 rfl rfl (⟨by rw [hx], rfl⟩)

set_option maxRecDepth 100000 in
theorem p_coin {G : mG} {I : Nat → Nat → Int32} {J : Nat → Nat → Int64} {t : Nat} {B : Nat} {S : aS} (hC : InvC I S) (hw : wfS B S) {x y z : Int32} : zC G yX6_coin (eX6_coin (g_rmv 2)) [.ref 0, .int x, .int y, .int z] (mm I J t) (fun r M => PC I (op_coin S x y z) r M) := by
  refine zC_of (by decide +kernel) rfl (by decide) (Nat.le_of_ble_eq_true rfl) ?_
  have n10 := hw.1.1
  show zV G (eX6_coin (g_rmv 2)) (0, 0) 0 [(0, .ref 0), (1, .int x), (2, .int y), (3, .int z)] [] (mm I J t) _
  refine zV_iload_n dX6_coin_0 rfl 1 rfl rfl ?_
  refine zV_bipush (v := (nI 6)) dX6_coin_1 rfl rfl ?_
  refine zV_callS (E' := eX6_isWithin (g_rmv 0)) (av := [.int x, .int (nI 6)]) (st := []) dX6_coin_3 rfl (k_RX6_65 _) rfl ⟨by decide, by decide⟩ ⟨by decide, by decide⟩ (Or.inl rfl) rfl (Nat.le_of_ble_eq_true rfl) (c_isWithin (x := x) (y := (nI 6))) (fun r3 M3 z => ?_)
  obtain ⟨rfl, rfl⟩ := z
  show zV G (eX6_coin (g_rmv 2)) (0, 0) 6 [(0, .ref 0), (1, .int x), (2, .int y), (3, .int z)] [.int (b2 (0 ≤ x ∧ x ≤ (nI 6)))] (mm I J t) _
  refine zB_if_eq (tgt := 27) dX6_coin_6 rfl rfl  (fun h6 => ?_) (fun h6 => ?_)
  · refine zV_aload_n dX6_coin_27 rfl 0 rfl rfl ?_
    refine zV_ldc (v := (-1000001)) dX6_coin_28 rfl tw264 ?_
    refine zV_callV (E' := eX6_tell (g_rmv 1)) (av := [.int (-1000001)]) (st := []) (b := 0) dX6_coin_30 rfl (k_RX6_70 _) rfl ⟨by decide, by decide⟩ ⟨by decide, by decide⟩ (Or.inl rfl) rfl (Nat.le_of_ble_eq_true rfl) rfl rfl rfl (c_tell (w := 0) (by decide) (by decide)) (fun r30 M30 z => ?_)
    obtain ⟨rfl, rfl⟩ := z
    show zV G (eX6_coin (g_rmv 2)) (0, 0) 33 [(0, .ref 0), (1, .int x), (2, .int y), (3, .int z)] [.int (fdg 0)] (mm (up2 I 67 0 (I 67 0 + nI 1)) J t) _
    exact zV_ireturn dX6_coin_33 rfl rfl (PC.tell hC hw (by unfold op_coin; rw [if_neg h6]) (fun _ _ => rfl))
  · refine zV_iload_n dX6_coin_9 rfl 2 rfl rfl ?_
    refine zV_bipush (v := (nI 99)) dX6_coin_10 rfl rfl ?_
    refine zV_callS (E' := eX6_isWithin (g_rmv 0)) (av := [.int y, .int (nI 99)]) (st := []) dX6_coin_12 rfl (k_RX6_65 _) rfl ⟨by decide, by decide⟩ ⟨by decide, by decide⟩ (Or.inl rfl) rfl (Nat.le_of_ble_eq_true rfl) (c_isWithin (x := y) (y := (nI 99))) (fun r12 M12 z => ?_)
    obtain ⟨rfl, rfl⟩ := z
    show zV G (eX6_coin (g_rmv 2)) (0, 0) 15 [(0, .ref 0), (1, .int x), (2, .int y), (3, .int z)] [.int (b2 (0 ≤ y ∧ y ≤ (nI 99)))] (mm I J t) _
    refine zB_if_eq (tgt := 27) dX6_coin_15 rfl rfl  (fun h15 => ?_) (fun h15 => ?_)
    · refine zV_aload_n dX6_coin_27 rfl 0 rfl rfl ?_
      refine zV_ldc (v := (-1000001)) dX6_coin_28 rfl tw264 ?_
      refine zV_callV (E' := eX6_tell (g_rmv 1)) (av := [.int (-1000001)]) (st := []) (b := 0) dX6_coin_30 rfl (k_RX6_70 _) rfl ⟨by decide, by decide⟩ ⟨by decide, by decide⟩ (Or.inl rfl) rfl (Nat.le_of_ble_eq_true rfl) rfl rfl rfl (c_tell (w := 0) (by decide) (by decide)) (fun r30 M30 z => ?_)
      obtain ⟨rfl, rfl⟩ := z
      show zV G (eX6_coin (g_rmv 2)) (0, 0) 33 [(0, .ref 0), (1, .int x), (2, .int y), (3, .int z)] [.int (fdg 0)] (mm (up2 I 67 0 (I 67 0 + nI 1)) J t) _
      exact zV_ireturn dX6_coin_33 rfl rfl (PC.tell hC hw (by unfold op_coin; rw [if_pos h6, if_neg h15]) (fun _ _ => rfl))
    · refine zV_iload_n dX6_coin_18 rfl 3 rfl rfl ?_
      refine zV_bipush (v := (nI 99)) dX6_coin_19 rfl rfl ?_
      refine zV_callS (E' := eX6_isWithin (g_rmv 0)) (av := [.int z, .int (nI 99)]) (st := []) dX6_coin_21 rfl (k_RX6_65 _) rfl ⟨by decide, by decide⟩ ⟨by decide, by decide⟩ (Or.inl rfl) rfl (Nat.le_of_ble_eq_true rfl) (c_isWithin (x := z) (y := (nI 99))) (fun r21 M21 z => ?_)
      obtain ⟨rfl, rfl⟩ := z
      show zV G (eX6_coin (g_rmv 2)) (0, 0) 24 [(0, .ref 0), (1, .int x), (2, .int y), (3, .int z)] [.int (b2 (0 ≤ z ∧ z ≤ (nI 99)))] (mm I J t) _
      refine zB_if_ne (tgt := 34) dX6_coin_24 rfl rfl  (fun h24 => ?_) (fun h24 => ?_)
      · obtain ⟨a, ha, rfl⟩ := (inR_iff (by decide)).mp h6
        obtain ⟨b, hb, rfl⟩ := (inR_iff (by decide)).mp h15
        obtain ⟨c, hc, rfl⟩ := (inR_iff (by decide)).mp h24
        refine zV_aload_n dX6_coin_34 rfl 0 rfl rfl ?_
        refine zV_getr (q' := 1) 0 dX6_coin_35 rfl fl_RX6_12 rfl (by decide) rfl rfl ?_
        refine zV_getI (x := (nI S.1.1)) 2 dX6_coin_38 rfl fl_RX6_74 (sh_land (Or.inl rfl)) (by decide) rfl hC.1.1 ?_
        refine zV_bipush (v := (nI 10)) dX6_coin_41 rfl rfl ?_
        refine zN_icmp_lt (tgt := 53) dX6_coin_43 rfl rfl (by omega) (by omega) (fun h43 => ?_) (fun h43 => ?_)
        · refine zV_aload_n dX6_coin_53 rfl 0 rfl rfl ?_
          refine zV_getr (q' := 1) 0 dX6_coin_54 rfl fl_RX6_12 rfl (by decide) rfl rfl ?_
          refine zV_iload_n dX6_coin_57 rfl 1 rfl rfl ?_
          refine zV_iload_n dX6_coin_58 rfl 2 rfl rfl ?_
          refine zV_iload_n dX6_coin_59 rfl 3 rfl rfl ?_
          refine zV_callV (E' := eX1_addCoin (g_rmv 0)) (av := [.int (nI a), .int (nI b), .int (nI c)]) (st := []) (b := 1) dX6_coin_60 rfl (k_RX6_78 _) rfl ⟨by decide, by decide⟩ ⟨by decide, by decide⟩ (Or.inl rfl) rfl (Nat.le_of_ble_eq_true rfl) (sh_land (Or.inl rfl)) rfl rfl (c_addCoin (kd := a) (kg := b) (sp := c) (Or.inl rfl) hC.1 hw.1 (by omega)) (fun r60 M60 z => ?_)
          obtain ⟨I60, rfl, rfl, hA60, hF60⟩ := z
          show zV G (eX6_coin (g_rmv 2)) (0, 0) 63 [(0, .ref 0), (1, .int (nI a)), (2, .int (nI b)), (3, .int (nI c))] [.int (nI S.1.1)] (mm I60 J t) _
          exact zV_ireturn dX6_coin_63 rfl rfl (PC.land hC hw (by unfold op_coin; rw [if_pos h6, if_pos h15, if_pos h24, if_neg (show ¬ (S.1.1 = 10) by omega), tn_nI (show a < 2 ^ 31 by omega), tn_nI (show b < 2 ^ 31 by omega), tn_nI (show c < 2 ^ 31 by omega)]) hA60 hF60.one)
        · refine zV_aload_n dX6_coin_46 rfl 0 rfl rfl ?_
          refine zV_ldc (v := (-1000002)) dX6_coin_47 rfl tw269 ?_
          refine zV_callV (E' := eX6_tell (g_rmv 1)) (av := [.int (-1000002)]) (st := []) (b := 0) dX6_coin_49 rfl (k_RX6_70 _) rfl ⟨by decide, by decide⟩ ⟨by decide, by decide⟩ (Or.inl rfl) rfl (Nat.le_of_ble_eq_true rfl) rfl rfl rfl (c_tell (w := 1) (by decide) (by decide)) (fun r49 M49 z => ?_)
          obtain ⟨rfl, rfl⟩ := z
          show zV G (eX6_coin (g_rmv 2)) (0, 0) 52 [(0, .ref 0), (1, .int (nI a)), (2, .int (nI b)), (3, .int (nI c))] [.int (fdg 1)] (mm (up2 I 67 1 (I 67 1 + nI 1)) J t) _
          exact zV_ireturn dX6_coin_52 rfl rfl (PC.tell hC hw (by unfold op_coin; rw [if_pos h6, if_pos h15, if_pos h24, if_pos (show S.1.1 = 10 by omega)]) (fun _ _ => rfl))
      · refine zV_aload_n dX6_coin_27 rfl 0 rfl rfl ?_
        refine zV_ldc (v := (-1000001)) dX6_coin_28 rfl tw264 ?_
        refine zV_callV (E' := eX6_tell (g_rmv 1)) (av := [.int (-1000001)]) (st := []) (b := 0) dX6_coin_30 rfl (k_RX6_70 _) rfl ⟨by decide, by decide⟩ ⟨by decide, by decide⟩ (Or.inl rfl) rfl (Nat.le_of_ble_eq_true rfl) rfl rfl rfl (c_tell (w := 0) (by decide) (by decide)) (fun r30 M30 z => ?_)
        obtain ⟨rfl, rfl⟩ := z
        show zV G (eX6_coin (g_rmv 2)) (0, 0) 33 [(0, .ref 0), (1, .int x), (2, .int y), (3, .int z)] [.int (fdg 0)] (mm (up2 I 67 0 (I 67 0 + nI 1)) J t) _
        exact zV_ireturn dX6_coin_33 rfl rfl (PC.tell hC hw (by unfold op_coin; rw [if_pos h6, if_pos h15, if_neg h24]) (fun _ _ => rfl))

set_option maxRecDepth 100000 in
theorem p_of {G : mG} {I : Nat → Nat → Int32} {J : Nat → Nat → Int64} {t : Nat} {B : Nat} {S : aS} (hC : InvC I S) (hw : wfS B S) {x y : Int32} : zC G yX6_of (eX6_of (g_rmv 3)) [.ref 0, .int x, .int y] (mm I J t) (fun r M => PC I (op_of S x y) r M) := by
  refine zC_of (by decide +kernel) rfl (by decide) (Nat.le_of_ble_eq_true rfl) ?_
  have n10 := hw.1.1
  show zV G (eX6_of (g_rmv 3)) (0, 0) 0 [(0, .ref 0), (1, .int x), (2, .int y)] [] (mm I J t) _
  refine zV_aload_n dX6_of_0 rfl 0 rfl rfl ?_
  refine zV_getr (q' := 1) 0 dX6_of_1 rfl fl_RX6_12 rfl (by decide) rfl rfl ?_
  refine zV_iload_n dX6_of_4 rfl 1 rfl rfl ?_
  refine zV_callV (E' := eX1_hasCoin (g_rmv 0)) (av := [.int x]) (st := []) (b := 1) dX6_of_5 rfl (k_RX6_82 _) rfl ⟨by decide, by decide⟩ ⟨by decide, by decide⟩ (Or.inl rfl) rfl (Nat.le_of_ble_eq_true rfl) (sh_land (Or.inl rfl)) rfl rfl (c_hasCoin (x := x) (Or.inl rfl) hC.1 hw.1) (fun r5 M5 z => ?_)
  obtain ⟨rfl, rfl⟩ := z
  show zV G (eX6_of (g_rmv 3)) (0, 0) 8 [(0, .ref 0), (1, .int x), (2, .int y)] [.int (b2 (hasC S.1.1 x))] (mm I J t) _
  refine zB_if_ne (tgt := 18) dX6_of_8 rfl rfl  (fun h8 => ?_) (fun h8 => ?_)
  · obtain ⟨c, hc, rfl⟩ := z_has n10 h8
    refine zV_aload_n dX6_of_18 rfl 0 rfl rfl ?_
    refine zV_getr (q' := 1) 0 dX6_of_19 rfl fl_RX6_12 rfl (by decide) rfl rfl ?_
    refine zV_getrX (q' := (1 + 1)) 0 dX6_of_22 rfl fl_RX6_86 (sh_land (Or.inl rfl)) (by decide) rfl (R_coins (Or.inl rfl)) ?_
    refine zV_iload_n dX6_of_25 rfl 1 rfl rfl ?_
    refine zV_aaload (q' := (1 + 3 + c)) c dX6_of_26 rfl (sh_coins (Or.inl rfl)) rfl (by decide) rfl (by omega) (by decide) (R_coin (Or.inl rfl) (by omega)) ?_
    refine zV_astore_n (lv' := [(0, .ref 0), (1, .int (nI c)), (2, .int y), (3, .ref (1 + 3 + c))]) dX6_of_27 rfl rfl (by decide) rfl ?_
    refine zV_iload_n dX6_of_28 rfl 2 rfl rfl ?_
    refine zX_tbl (lo' := 0) (hi' := 6) (td := 107) dX6_of_29 rfl rfl (by decide) rfl (fun h29 => ?_) (fun i hi1 hi2 h29 => ?_)
    · refine zV_aload_n dX6_of_107 rfl 0 rfl rfl ?_
      refine zV_ldc (v := (-1000001)) dX6_of_108 rfl tw264 ?_
      refine zV_callV (E' := eX6_tell (g_rmv 1)) (av := [.int (-1000001)]) (st := []) (b := 0) dX6_of_110 rfl (k_RX6_70 _) rfl ⟨by decide, by decide⟩ ⟨by decide, by decide⟩ (Or.inl rfl) rfl (Nat.le_of_ble_eq_true rfl) rfl rfl rfl (c_tell (w := 0) (by decide) (by decide)) (fun r110 M110 z => ?_)
      obtain ⟨rfl, rfl⟩ := z
      show zV G (eX6_of (g_rmv 3)) (0, 0) 113 [(0, .ref 0), (1, .int (nI c)), (2, .int y), (3, .ref (1 + 3 + c))] [.int (fdg 0)] (mm (up2 I 67 0 (I 67 0 + nI 1)) J t) _
      exact zV_ireturn dX6_of_113 rfl rfl (PC.tell hC hw (by unfold op_of; rw [if_pos h8, if_neg (show ¬ inR y 5 from fun q => by obtain ⟨j, hj, e⟩ := (inR_iff (by decide)).mp q; exact h29 j (by omega) (by omega) e), if_neg (h29 6 (by decide) (by decide))]) (fun _ _ => rfl))
    · rcases (show i = 0 ∨ i = 1 ∨ i = 2 ∨ i = 3 ∨ i = 4 ∨ i = 5 ∨ i = 6 by omega) with rfl | rfl | rfl | rfl | rfl | rfl | rfl
      · refine ⟨_, 72, rfl, rfl, ?_⟩
        refine zV_aload_n dX6_of_72 rfl 3 rfl rfl ?_
        refine zV_getI (x := (nI (S.1.2.1 c 0))) 0 dX6_of_73 rfl fl_RX6_90 (sh_coin (Or.inl rfl) (by omega)) (by decide) rfl (hC.1.2.1 c hc 0 (by decide)) ?_
        exact zV_ireturn dX6_of_76 rfl rfl (PC.same hC hw (by subst h29; unfold op_of; rw [if_pos h8, if_pos (show inR (nI 0) 5 by decide), tn_nI (show c < 2 ^ 31 by omega), tn_nI (show 0 < 2 ^ 31 by decide)]) (fun _ _ => rfl))
      · refine ⟨_, 77, rfl, rfl, ?_⟩
        refine zV_aload_n dX6_of_77 rfl 3 rfl rfl ?_
        refine zV_getI (x := (nI (S.1.2.1 c 1))) 1 dX6_of_78 rfl fl_RX6_95 (sh_coin (Or.inl rfl) (by omega)) (by decide) rfl (hC.1.2.1 c hc 1 (by decide)) ?_
        exact zV_ireturn dX6_of_81 rfl rfl (PC.same hC hw (by subst h29; unfold op_of; rw [if_pos h8, if_pos (show inR (nI 1) 5 by decide), tn_nI (show c < 2 ^ 31 by omega), tn_nI (show 1 < 2 ^ 31 by decide)]) (fun _ _ => rfl))
      · refine ⟨_, 82, rfl, rfl, ?_⟩
        refine zV_aload_n dX6_of_82 rfl 3 rfl rfl ?_
        refine zV_getI (x := (nI (S.1.2.1 c 2))) 2 dX6_of_83 rfl fl_RX6_98 (sh_coin (Or.inl rfl) (by omega)) (by decide) rfl (hC.1.2.1 c hc 2 (by decide)) ?_
        exact zV_ireturn dX6_of_86 rfl rfl (PC.same hC hw (by subst h29; unfold op_of; rw [if_pos h8, if_pos (show inR (nI 2) 5 by decide), tn_nI (show c < 2 ^ 31 by omega), tn_nI (show 2 < 2 ^ 31 by decide)]) (fun _ _ => rfl))
      · refine ⟨_, 87, rfl, rfl, ?_⟩
        refine zV_aload_n dX6_of_87 rfl 3 rfl rfl ?_
        refine zV_getI (x := (nI (S.1.2.1 c 3))) 3 dX6_of_88 rfl fl_RX6_101 (sh_coin (Or.inl rfl) (by omega)) (by decide) rfl (hC.1.2.1 c hc 3 (by decide)) ?_
        exact zV_ireturn dX6_of_91 rfl rfl (PC.same hC hw (by subst h29; unfold op_of; rw [if_pos h8, if_pos (show inR (nI 3) 5 by decide), tn_nI (show c < 2 ^ 31 by omega), tn_nI (show 3 < 2 ^ 31 by decide)]) (fun _ _ => rfl))
      · refine ⟨_, 92, rfl, rfl, ?_⟩
        refine zV_aload_n dX6_of_92 rfl 3 rfl rfl ?_
        refine zV_getI (x := (nI (S.1.2.1 c 4))) 4 dX6_of_93 rfl fl_RX6_104 (sh_coin (Or.inl rfl) (by omega)) (by decide) rfl (hC.1.2.1 c hc 4 (by decide)) ?_
        exact zV_ireturn dX6_of_96 rfl rfl (PC.same hC hw (by subst h29; unfold op_of; rw [if_pos h8, if_pos (show inR (nI 4) 5 by decide), tn_nI (show c < 2 ^ 31 by omega), tn_nI (show 4 < 2 ^ 31 by decide)]) (fun _ _ => rfl))
      · refine ⟨_, 97, rfl, rfl, ?_⟩
        refine zV_aload_n dX6_of_97 rfl 3 rfl rfl ?_
        refine zV_getI (x := (nI (S.1.2.1 c 5))) 5 dX6_of_98 rfl fl_RX6_107 (sh_coin (Or.inl rfl) (by omega)) (by decide) rfl (hC.1.2.1 c hc 5 (by decide)) ?_
        exact zV_ireturn dX6_of_101 rfl rfl (PC.same hC hw (by subst h29; unfold op_of; rw [if_pos h8, if_pos (show inR (nI 5) 5 by decide), tn_nI (show c < 2 ^ 31 by omega), tn_nI (show 5 < 2 ^ 31 by decide)]) (fun _ _ => rfl))
      · refine ⟨_, 102, rfl, rfl, ?_⟩
        refine zV_aload_n dX6_of_102 rfl 3 rfl rfl ?_
        refine zV_callV (E' := eX0_worthNow (g_rmv 2)) (av := []) (st := []) (b := (1 + 3 + c)) dX6_of_103 rfl (k_RX6_110 _) rfl ⟨by decide, by decide⟩ ⟨by decide, by decide⟩ (Or.inl rfl) rfl (Nat.le_of_ble_eq_true rfl) (sh_coin (Or.inl rfl) (by omega)) rfl rfl (c_worthNow (sh_coin (Or.inl rfl) (by omega)) (hC.1.2.1 c hc) (hw.1.2.1 c hc)) (fun r103 M103 z => ?_)
        obtain ⟨rfl, rfl⟩ := z
        show zV G (eX6_of (g_rmv 3)) (0, 0) 106 [(0, .ref 0), (1, .int (nI c)), (2, .int y), (3, .ref (1 + 3 + c))] [.int (nI (k_now (S.1.2.1 c)))] (mm I J t) _
        exact zV_ireturn dX6_of_106 rfl rfl (PC.same hC hw (by unfold op_of; rw [if_pos h8, if_neg (show ¬ inR y 5 by rw [h29]; decide), if_pos h29, tn_nI (show c < 2 ^ 31 by omega)]) (fun _ _ => rfl))
  · refine zV_aload_n dX6_of_11 rfl 0 rfl rfl ?_
    refine zV_ldc (v := (-1000001)) dX6_of_12 rfl tw264 ?_
    refine zV_callV (E' := eX6_tell (g_rmv 1)) (av := [.int (-1000001)]) (st := []) (b := 0) dX6_of_14 rfl (k_RX6_70 _) rfl ⟨by decide, by decide⟩ ⟨by decide, by decide⟩ (Or.inl rfl) rfl (Nat.le_of_ble_eq_true rfl) rfl rfl rfl (c_tell (w := 0) (by decide) (by decide)) (fun r14 M14 z => ?_)
    obtain ⟨rfl, rfl⟩ := z
    show zV G (eX6_of (g_rmv 3)) (0, 0) 17 [(0, .ref 0), (1, .int x), (2, .int y)] [.int (fdg 0)] (mm (up2 I 67 0 (I 67 0 + nI 1)) J t) _
    exact zV_ireturn dX6_of_17 rfl rfl (PC.tell hC hw (by unfold op_of; rw [if_neg h8]) (fun _ _ => rfl))

set_option maxRecDepth 100000 in
theorem p_turn {G : mG} {I : Nat → Nat → Int32} {J : Nat → Nat → Int64} {t : Nat} {B : Nat} {S : aS} (hC : InvC I S) (hw : wfS B S) (hB : B + 2 < 1000000) {x : Int32} : zC G yX6_turn (eX6_turn (g_rmv 3)) [.ref 0, .int x] (mm I J t) (fun r M => PC I (op_turn S x) r M) := by
  refine zC_of (by decide +kernel) rfl (by decide) (Nat.le_of_ble_eq_true rfl) ?_
  have n10 := hw.1.1
  show zV G (eX6_turn (g_rmv 3)) (0, 0) 0 [(0, .ref 0), (1, .int x)] [] (mm I J t) _
  refine zV_aload_n dX6_turn_0 rfl 0 rfl rfl ?_
  refine zV_getr (q' := 1) 0 dX6_turn_1 rfl fl_RX6_12 rfl (by decide) rfl rfl ?_
  refine zV_iload_n dX6_turn_4 rfl 1 rfl rfl ?_
  refine zV_callV (E' := eX1_hasCoin (g_rmv 0)) (av := [.int x]) (st := []) (b := 1) dX6_turn_5 rfl (k_RX6_82 _) rfl ⟨by decide, by decide⟩ ⟨by decide, by decide⟩ (Or.inl rfl) rfl (Nat.le_of_ble_eq_true rfl) (sh_land (Or.inl rfl)) rfl rfl (c_hasCoin (x := x) (Or.inl rfl) hC.1 hw.1) (fun r5 M5 z => ?_)
  obtain ⟨rfl, rfl⟩ := z
  show zV G (eX6_turn (g_rmv 3)) (0, 0) 8 [(0, .ref 0), (1, .int x)] [.int (b2 (hasC S.1.1 x))] (mm I J t) _
  refine zB_if_ne (tgt := 18) dX6_turn_8 rfl rfl  (fun h8 => ?_) (fun h8 => ?_)
  · obtain ⟨c, hc, rfl⟩ := z_has n10 h8
    refine zV_aload_n dX6_turn_18 rfl 0 rfl rfl ?_
    refine zV_getr (q' := 1) 0 dX6_turn_19 rfl fl_RX6_12 rfl (by decide) rfl rfl ?_
    refine zV_getrX (q' := (1 + 1)) 0 dX6_turn_22 rfl fl_RX6_86 (sh_land (Or.inl rfl)) (by decide) rfl (R_coins (Or.inl rfl)) ?_
    refine zV_iload_n dX6_turn_25 rfl 1 rfl rfl ?_
    refine zV_aaload (q' := (1 + 3 + c)) c dX6_turn_26 rfl (sh_coins (Or.inl rfl)) rfl (by decide) rfl (by omega) (by decide) (R_coin (Or.inl rfl) (by omega)) ?_
    refine zV_callV (E' := eX0_turnOver (g_rmv 1)) (av := []) (st := []) (b := (1 + 3 + c)) dX6_turn_27 rfl (k_RX6_121 _) rfl ⟨by decide, by decide⟩ ⟨by decide, by decide⟩ (Or.inl rfl) rfl (Nat.le_of_ble_eq_true rfl) (sh_coin (Or.inl rfl) (by omega)) rfl rfl (c_turnOver (sh_coin (Or.inl rfl) (by omega)) (hC.1.2.1 c hc) (hw.1.2.1 c hc)) (fun r27 M27 z => ?_)
    obtain ⟨I27, rfl, rfl, hK27, hF27⟩ := z
    show zV G (eX6_turn (g_rmv 3)) (0, 0) 30 [(0, .ref 0), (1, .int (nI c))] [] (mm I27 J t) _
    refine zV_aload_n dX6_turn_30 rfl 0 rfl rfl ?_
    refine zV_getr (q' := 1) 0 dX6_turn_31 rfl fl_RX6_12 rfl (by decide) rfl rfl ?_
    refine zV_getrX (q' := (1 + 1)) 0 dX6_turn_34 rfl fl_RX6_86 (sh_land (Or.inl rfl)) (by decide) rfl (R_coins (Or.inl rfl)) ?_
    refine zV_iload_n dX6_turn_37 rfl 1 rfl rfl ?_
    refine zV_aaload (q' := (1 + 3 + c)) c dX6_turn_38 rfl (sh_coins (Or.inl rfl)) rfl (by decide) rfl (by omega) (by decide) (R_coin (Or.inl rfl) (by omega)) ?_
    refine zV_callV (E' := eX0_worthNow (g_rmv 2)) (av := []) (st := []) (b := (1 + 3 + c)) dX6_turn_39 rfl (k_RX6_110 _) rfl ⟨by decide, by decide⟩ ⟨by decide, by decide⟩ (Or.inl rfl) rfl (Nat.le_of_ble_eq_true rfl) (sh_coin (Or.inl rfl) (by omega)) rfl rfl (c_worthNow (sh_coin (Or.inl rfl) (by omega)) hK27 (wf_turn (hw.1.2.1 c hc) hB)) (fun r39 M39 z => ?_)
    obtain ⟨rfl, rfl⟩ := z
    show zV G (eX6_turn (g_rmv 3)) (0, 0) 42 [(0, .ref 0), (1, .int (nI c))] [.int (nI (k_now (k_turn (S.1.2.1 c))))] (mm I27 J t) _
    exact zV_ireturn dX6_turn_42 rfl rfl (PC.land hC hw (by unfold op_turn; rw [if_pos h8, tn_nI (show c < 2 ^ 31 by omega)]) (hC.1.cset hK27 hF27) (frL.coin (by omega) hF27).one)
  · refine zV_aload_n dX6_turn_11 rfl 0 rfl rfl ?_
    refine zV_ldc (v := (-1000001)) dX6_turn_12 rfl tw264 ?_
    refine zV_callV (E' := eX6_tell (g_rmv 1)) (av := [.int (-1000001)]) (st := []) (b := 0) dX6_turn_14 rfl (k_RX6_70 _) rfl ⟨by decide, by decide⟩ ⟨by decide, by decide⟩ (Or.inl rfl) rfl (Nat.le_of_ble_eq_true rfl) rfl rfl rfl (c_tell (w := 0) (by decide) (by decide)) (fun r14 M14 z => ?_)
    obtain ⟨rfl, rfl⟩ := z
    show zV G (eX6_turn (g_rmv 3)) (0, 0) 17 [(0, .ref 0), (1, .int x)] [.int (fdg 0)] (mm (up2 I 67 0 (I 67 0 + nI 1)) J t) _
    exact zV_ireturn dX6_turn_17 rfl rfl (PC.tell hC hw (by unfold op_turn; rw [if_neg h8]) (fun _ _ => rfl))

set_option maxRecDepth 100000 in
theorem p_sum {G : mG} {I : Nat → Nat → Int32} {J : Nat → Nat → Int64} {t : Nat} {B : Nat} {S : aS} (hC : InvC I S) (hw : wfS B S) {x : Int32} : zC G yX6_sum (eX6_sum (g_rmv 4)) [.ref 0, .int x] (mm I J t) (fun r M => PC I (op_sum S x) r M) := by
  refine zC_of (by decide +kernel) rfl (by decide) (Nat.le_of_ble_eq_true rfl) ?_
  have n10 := hw.1.1
  show zV G (eX6_sum (g_rmv 4)) (0, 0) 0 [(0, .ref 0), (1, .int x)] [] (mm I J t) _
  refine zV_aload_n dX6_sum_0 rfl 0 rfl rfl ?_
  refine zV_getr (q' := 1) 0 dX6_sum_1 rfl fl_RX6_12 rfl (by decide) rfl rfl ?_
  refine zV_iload_n dX6_sum_4 rfl 1 rfl rfl ?_
  refine zV_callV (E' := eX1_hasSet (g_rmv 1)) (av := [.int x]) (st := []) (b := 1) dX6_sum_5 rfl (k_RX6_139 _) rfl ⟨by decide, by decide⟩ ⟨by decide, by decide⟩ (Or.inl rfl) rfl (Nat.le_of_ble_eq_true rfl) (sh_land (Or.inl rfl)) rfl rfl (c_hasSet (x := x) (Or.inl rfl) hC.1 hw.1) (fun r5 M5 z => ?_)
  obtain ⟨rfl, rfl⟩ := z
  show zV G (eX6_sum (g_rmv 4)) (0, 0) 8 [(0, .ref 0), (1, .int x)] [.int (b2 (isSet S.1.1 x))] (mm I J t) _
  refine zB_if_eq (tgt := 22) dX6_sum_8 rfl rfl  (fun h8 => ?_) (fun h8 => ?_)
  · refine zV_aload_n dX6_sum_22 rfl 0 rfl rfl ?_
    refine zV_ldc (v := (-1000001)) dX6_sum_23 rfl tw264 ?_
    refine zV_callV (E' := eX6_tell (g_rmv 1)) (av := [.int (-1000001)]) (st := []) (b := 0) dX6_sum_25 rfl (k_RX6_70 _) rfl ⟨by decide, by decide⟩ ⟨by decide, by decide⟩ (Or.inl rfl) rfl (Nat.le_of_ble_eq_true rfl) rfl rfl rfl (c_tell (w := 0) (by decide) (by decide)) (fun r25 M25 z => ?_)
    obtain ⟨rfl, rfl⟩ := z
    show zV G (eX6_sum (g_rmv 4)) (0, 0) 28 [(0, .ref 0), (1, .int x)] [.int (fdg 0)] (mm (up2 I 67 0 (I 67 0 + nI 1)) J t) _
    exact zV_ireturn dX6_sum_28 rfl rfl (PC.tell hC hw (by unfold op_sum; rw [if_neg h8]) (fun _ _ => rfl))
  · obtain ⟨s, hs, hs1, rfl⟩ := z_sets n10 h8
    refine zV_aload_n dX6_sum_11 rfl 0 rfl rfl ?_
    refine zV_getr (q' := 1) 0 dX6_sum_12 rfl fl_RX6_12 rfl (by decide) rfl rfl ?_
    refine zV_iload_n dX6_sum_15 rfl 1 rfl rfl ?_
    refine zV_callV (E' := eX1_worthOf (g_rmv 3)) (av := [.int (nI s)]) (st := []) (b := 1) dX6_sum_16 rfl (k_RX6_130 _) rfl ⟨by decide, by decide⟩ ⟨by decide, by decide⟩ (Or.inl rfl) rfl (Nat.le_of_ble_eq_true rfl) (sh_land (Or.inl rfl)) rfl rfl (c_worthOf (s := s) (Or.inl rfl) hC.1 hw.1 (by omega)) (fun r16 M16 z => ?_)
    obtain ⟨rfl, rfl⟩ := z
    show zV G (eX6_sum (g_rmv 4)) (0, 0) 19 [(0, .ref 0), (1, .int (nI s))] [.int (nI (ld_sum S.1 s))] (mm I J t) _
    refine zV_goto (tgt := 28) dX6_sum_19 rfl ?_
    exact zV_ireturn dX6_sum_28 rfl rfl (PC.same hC hw (by unfold op_sum; rw [if_pos h8, tn_nI (show s < 2 ^ 31 by omega)]) (fun _ _ => rfl))

theorem z_most {y v : Int32} (h : 0 ≤ v ∧ v ≤ mostOf y) : ∃ f a, f < 5 ∧ a < 100 ∧ y = nI f ∧ v = nI a := by
  obtain ⟨a, ha, rfl⟩ := nI_of (fun z => absurd h.1 (Int32.not_le.mpr z))
  have h2 := h.2
  unfold mostOf at h2
  by_cases e0 : y = nI 0
  · rw [if_pos e0] at h2; exact ⟨0, a, by decide, by have := (nI_leI ha (by decide)).mp h2; omega, e0, rfl⟩
  rw [if_neg e0] at h2
  by_cases e1 : y = nI 1
  · rw [if_pos e1] at h2; exact ⟨1, a, by decide, by have := (nI_leI ha (by decide)).mp h2; omega, e1, rfl⟩
  rw [if_neg e1] at h2
  by_cases e2 : y = nI 2
  · rw [if_pos e2] at h2; exact ⟨2, a, by decide, by have := (nI_leI ha (by decide)).mp h2; omega, e2, rfl⟩
  rw [if_neg e2] at h2
  by_cases e3 : y = nI 3
  · rw [if_pos e3] at h2; exact ⟨3, a, by decide, by have := (nI_leI ha (by decide)).mp h2; omega, e3, rfl⟩
  rw [if_neg e3] at h2
  by_cases e4 : y = nI 4
  · rw [if_pos e4] at h2; exact ⟨4, a, by decide, by have := (nI_leI ha (by decide)).mp h2; omega, e4, rfl⟩
  rw [if_neg e4] at h2
  exact absurd h2 (fun z => by
    have z1 := Int32.le_iff_toInt_le.mp z
    rw [nI_toInt ha, show (-1 : Int32).toInt = -1 from rfl] at z1
    omega)
set_option maxRecDepth 100000 in
theorem p_change {G : mG} {I : Nat → Nat → Int32} {J : Nat → Nat → Int64} {t : Nat} {B : Nat} {S : aS} (hC : InvC I S) (hw : wfS B S) {x y v : Int32} : zC G yX6_change (eX6_change (g_rmv 2)) [.ref 0, .int x, .int y, .int v] (mm I J t) (fun r M => PC I (op_change S x y v) r M) := by
  refine zC_of (by decide +kernel) rfl (by decide) (Nat.le_of_ble_eq_true rfl) ?_
  have n10 := hw.1.1
  show zV G (eX6_change (g_rmv 2)) (0, 0) 0 [(0, .ref 0), (1, .int x), (2, .int y), (3, .int v)] [] (mm I J t) _
  refine zV_aload_n dX6_change_0 rfl 0 rfl rfl ?_
  refine zV_getr (q' := 1) 0 dX6_change_1 rfl fl_RX6_12 rfl (by decide) rfl rfl ?_
  refine zV_iload_n dX6_change_4 rfl 1 rfl rfl ?_
  refine zV_callV (E' := eX1_hasCoin (g_rmv 0)) (av := [.int x]) (st := []) (b := 1) dX6_change_5 rfl (k_RX6_82 _) rfl ⟨by decide, by decide⟩ ⟨by decide, by decide⟩ (Or.inl rfl) rfl (Nat.le_of_ble_eq_true rfl) (sh_land (Or.inl rfl)) rfl rfl (c_hasCoin (x := x) (Or.inl rfl) hC.1 hw.1) (fun r5 M5 z => ?_)
  obtain ⟨rfl, rfl⟩ := z
  show zV G (eX6_change (g_rmv 2)) (0, 0) 8 [(0, .ref 0), (1, .int x), (2, .int y), (3, .int v)] [.int (b2 (hasC S.1.1 x))] (mm I J t) _
  refine zB_if_eq (tgt := 22) dX6_change_8 rfl rfl  (fun h8 => ?_) (fun h8 => ?_)
  · refine zV_aload_n dX6_change_22 rfl 0 rfl rfl ?_
    refine zV_ldc (v := (-1000001)) dX6_change_23 rfl tw264 ?_
    refine zV_callV (E' := eX6_tell (g_rmv 1)) (av := [.int (-1000001)]) (st := []) (b := 0) dX6_change_25 rfl (k_RX6_70 _) rfl ⟨by decide, by decide⟩ ⟨by decide, by decide⟩ (Or.inl rfl) rfl (Nat.le_of_ble_eq_true rfl) rfl rfl rfl (c_tell (w := 0) (by decide) (by decide)) (fun r25 M25 z => ?_)
    obtain ⟨rfl, rfl⟩ := z
    show zV G (eX6_change (g_rmv 2)) (0, 0) 28 [(0, .ref 0), (1, .int x), (2, .int y), (3, .int v)] [.int (fdg 0)] (mm (up2 I 67 0 (I 67 0 + nI 1)) J t) _
    exact zV_ireturn dX6_change_28 rfl rfl (PC.tell hC hw (by unfold op_change; rw [if_neg h8]) (fun _ _ => rfl))
  · refine zV_iload_n dX6_change_11 rfl 3 rfl rfl ?_
    refine zV_iload_n dX6_change_12 rfl 2 rfl rfl ?_
    refine zV_callS (E' := eX6_mostOf (g_rmv 0)) (av := [.int y]) (st := [.int v]) dX6_change_13 rfl (k_RX6_114 _) rfl ⟨by decide, by decide⟩ ⟨by decide, by decide⟩ (Or.inl rfl) rfl (Nat.le_of_ble_eq_true rfl) (c_mostOf (x := y)) (fun r13 M13 z => ?_)
    obtain ⟨rfl, rfl⟩ := z
    show zV G (eX6_change (g_rmv 2)) (0, 0) 16 [(0, .ref 0), (1, .int x), (2, .int y), (3, .int v)] [.int (mostOf y), .int v] (mm I J t) _
    refine zV_callS (E' := eX6_isWithin (g_rmv 0)) (av := [.int v, .int (mostOf y)]) (st := []) dX6_change_16 rfl (k_RX6_65 _) rfl ⟨by decide, by decide⟩ ⟨by decide, by decide⟩ (Or.inl rfl) rfl (Nat.le_of_ble_eq_true rfl) (c_isWithin (x := v) (y := (mostOf y))) (fun r16 M16 z => ?_)
    obtain ⟨rfl, rfl⟩ := z
    show zV G (eX6_change (g_rmv 2)) (0, 0) 19 [(0, .ref 0), (1, .int x), (2, .int y), (3, .int v)] [.int (b2 (0 ≤ v ∧ v ≤ (mostOf y)))] (mm I J t) _
    refine zB_if_ne (tgt := 29) dX6_change_19 rfl rfl  (fun h19 => ?_) (fun h19 => ?_)
    · obtain ⟨c, hc, rfl⟩ := z_has n10 h8
      obtain ⟨f, v, hf, hv, rfl, rfl⟩ := z_most h19
      refine zV_aload_n dX6_change_29 rfl 0 rfl rfl ?_
      refine zV_getr (q' := 1) 0 dX6_change_30 rfl fl_RX6_12 rfl (by decide) rfl rfl ?_
      refine zV_getrX (q' := (1 + 1)) 0 dX6_change_33 rfl fl_RX6_86 (sh_land (Or.inl rfl)) (by decide) rfl (R_coins (Or.inl rfl)) ?_
      refine zV_iload_n dX6_change_36 rfl 1 rfl rfl ?_
      refine zV_aaload (q' := (1 + 3 + c)) c dX6_change_37 rfl (sh_coins (Or.inl rfl)) rfl (by decide) rfl (by omega) (by decide) (R_coin (Or.inl rfl) (by omega)) ?_
      refine zV_iload_n dX6_change_38 rfl 2 rfl rfl ?_
      refine zV_iload_n dX6_change_39 rfl 3 rfl rfl ?_
      refine zV_callV (E' := eX0_replace (g_rmv 0)) (av := [.int (nI f), .int (nI v)]) (st := []) (b := (1 + 3 + c)) dX6_change_40 rfl (k_RX6_117 _) rfl ⟨by decide, by decide⟩ ⟨by decide, by decide⟩ (Or.inl rfl) rfl (Nat.le_of_ble_eq_true rfl) (sh_coin (Or.inl rfl) (by omega)) rfl rfl (c_replace (w := f) (v := v) (sh_coin (Or.inl rfl) (by omega)) (hC.1.2.1 c hc) (hw.1.2.1 c hc) (by omega)) (fun r40 M40 z => ?_)
      obtain ⟨I40, rfl, rfl, hK40, hF40⟩ := z
      show zV G (eX6_change (g_rmv 2)) (0, 0) 43 [(0, .ref 0), (1, .int (nI c)), (2, .int (nI f)), (3, .int (nI v))] [.int (nI (S.1.2.1 c f))] (mm I40 J t) _
      exact zV_ireturn dX6_change_43 rfl rfl (PC.land hC hw (by unfold op_change; rw [if_pos h8, if_pos h19, tn_nI (show c < 2 ^ 31 by omega), tn_nI (show f < 2 ^ 31 by omega), tn_nI (show v < 2 ^ 31 by omega)]) (hC.1.cset hK40 hF40) (frL.coin (by omega) hF40).one)
    · refine zV_aload_n dX6_change_22 rfl 0 rfl rfl ?_
      refine zV_ldc (v := (-1000001)) dX6_change_23 rfl tw264 ?_
      refine zV_callV (E' := eX6_tell (g_rmv 1)) (av := [.int (-1000001)]) (st := []) (b := 0) dX6_change_25 rfl (k_RX6_70 _) rfl ⟨by decide, by decide⟩ ⟨by decide, by decide⟩ (Or.inl rfl) rfl (Nat.le_of_ble_eq_true rfl) rfl rfl rfl (c_tell (w := 0) (by decide) (by decide)) (fun r25 M25 z => ?_)
      obtain ⟨rfl, rfl⟩ := z
      show zV G (eX6_change (g_rmv 2)) (0, 0) 28 [(0, .ref 0), (1, .int x), (2, .int y), (3, .int v)] [.int (fdg 0)] (mm (up2 I 67 0 (I 67 0 + nI 1)) J t) _
      exact zV_ireturn dX6_change_28 rfl rfl (PC.tell hC hw (by unfold op_change; rw [if_pos h8, if_neg h19]) (fun _ _ => rfl))

set_option maxRecDepth 100000 in
theorem p_purse {G : mG} {I : Nat → Nat → Int32} {J : Nat → Nat → Int64} {t : Nat} {B : Nat} {S : aS} (hC : InvC I S) (hw : wfS B S) {x y : Int32} : zC G yX6_purse (eX6_purse (g_rmv 4)) [.ref 0, .int x, .int y] (mm I J t) (fun r M => PC I (op_purse S x y) r M) := by
  refine zC_of (by decide +kernel) rfl (by decide) (Nat.le_of_ble_eq_true rfl) ?_
  have n10 := hw.1.1
  show zV G (eX6_purse (g_rmv 4)) (0, 0) 0 [(0, .ref 0), (1, .int x), (2, .int y)] [] (mm I J t) _
  refine zV_iload_n dX6_purse_0 rfl 1 rfl rfl ?_
  refine zV_callS (E' := eX6_isPurse (g_rmv 1)) (av := [.int x]) (st := []) dX6_purse_1 rfl (k_RX6_124 _) rfl ⟨by decide, by decide⟩ ⟨by decide, by decide⟩ (Or.inl rfl) rfl (Nat.le_of_ble_eq_true rfl) (c_isPurse (x := x)) (fun r1 M1 z => ?_)
  obtain ⟨rfl, rfl⟩ := z
  show zV G (eX6_purse (g_rmv 4)) (0, 0) 4 [(0, .ref 0), (1, .int x), (2, .int y)] [.int (b2 (inR x 3))] (mm I J t) _
  refine zB_if_ne (tgt := 14) dX6_purse_4 rfl rfl  (fun h4 => ?_) (fun h4 => ?_)
  · obtain ⟨p, hp, rfl⟩ := (inR_iff (by decide)).mp h4
    refine zV_aload_n dX6_purse_14 rfl 0 rfl rfl ?_
    refine zV_getr (q' := 1) 0 dX6_purse_15 rfl fl_RX6_12 rfl (by decide) rfl rfl ?_
    refine zV_iload_n dX6_purse_18 rfl 1 rfl rfl ?_
    refine zV_callV (E' := eX1_coinsIn (g_rmv 0)) (av := [.int (nI p)]) (st := []) (b := 1) dX6_purse_19 rfl (k_RX6_127 _) rfl ⟨by decide, by decide⟩ ⟨by decide, by decide⟩ (Or.inl rfl) rfl (Nat.le_of_ble_eq_true rfl) (sh_land (Or.inl rfl)) rfl rfl (c_coinsIn (p := p) (Or.inl rfl) hC.1 hw.1 (by omega)) (fun r19 M19 z => ?_)
    obtain ⟨rfl, rfl⟩ := z
    show zV G (eX6_purse (g_rmv 4)) (0, 0) 22 [(0, .ref 0), (1, .int (nI p)), (2, .int y)] [.int (nI (ld_in S.1 p))] (mm I J t) _
    refine zV_istore_n (lv' := [(0, .ref 0), (1, .int (nI p)), (2, .int y), (3, .int (nI (ld_in S.1 p)))]) dX6_purse_22 rfl rfl (by decide) rfl ?_
    refine zV_iload_n dX6_purse_23 rfl 2 rfl rfl ?_
    refine zX_tbl (lo' := 0) (hi' := 3) (td := 87) dX6_purse_24 rfl rfl (by decide) rfl (fun h24 => ?_) (fun i hi1 hi2 h24 => ?_)
    · refine zV_aload_n dX6_purse_87 rfl 0 rfl rfl ?_
      refine zV_ldc (v := (-1000001)) dX6_purse_88 rfl tw264 ?_
      refine zV_callV (E' := eX6_tell (g_rmv 1)) (av := [.int (-1000001)]) (st := []) (b := 0) dX6_purse_90 rfl (k_RX6_70 _) rfl ⟨by decide, by decide⟩ ⟨by decide, by decide⟩ (Or.inl rfl) rfl (Nat.le_of_ble_eq_true rfl) rfl rfl rfl (c_tell (w := 0) (by decide) (by decide)) (fun r90 M90 z => ?_)
      obtain ⟨rfl, rfl⟩ := z
      show zV G (eX6_purse (g_rmv 4)) (0, 0) 93 [(0, .ref 0), (1, .int (nI p)), (2, .int y), (3, .int (nI (ld_in S.1 p)))] [.int (fdg 0)] (mm (up2 I 67 0 (I 67 0 + nI 1)) J t) _
      exact zV_ireturn dX6_purse_93 rfl rfl (PC.tell hC hw (by unfold op_purse; rw [if_pos h4, if_neg (h24 0 (by decide) (by decide)), if_neg (h24 1 (by decide) (by decide)), if_neg (h24 2 (by decide) (by decide)), if_neg (h24 3 (by decide) (by decide))]) (fun _ _ => rfl))
    · rcases (show i = 0 ∨ i = 1 ∨ i = 2 ∨ i = 3 by omega) with rfl | rfl | rfl | rfl
      · refine ⟨_, 56, rfl, rfl, ?_⟩
        refine zV_iload_n dX6_purse_56 rfl 3 rfl rfl ?_
        exact zV_ireturn dX6_purse_57 rfl rfl (PC.same hC hw (by subst h24; unfold op_purse; rw [if_pos h4, if_pos rfl, tn_nI (show p < 2 ^ 31 by omega)]) (fun _ _ => rfl))
      · refine ⟨_, 58, rfl, rfl, ?_⟩
        refine zV_aload_n dX6_purse_58 rfl 0 rfl rfl ?_
        refine zV_getr (q' := 1) 0 dX6_purse_59 rfl fl_RX6_12 rfl (by decide) rfl rfl ?_
        refine zV_iload_n dX6_purse_62 rfl 3 rfl rfl ?_
        refine zV_callV (E' := eX1_worthOf (g_rmv 3)) (av := [.int (nI (ld_in S.1 p))]) (st := []) (b := 1) dX6_purse_63 rfl (k_RX6_130 _) rfl ⟨by decide, by decide⟩ ⟨by decide, by decide⟩ (Or.inl rfl) rfl (Nat.le_of_ble_eq_true rfl) (sh_land (Or.inl rfl)) rfl rfl (c_worthOf (s := (ld_in S.1 p)) (Or.inl rfl) hC.1 hw.1 (Nat.lt_trans (ld_in_lt n10 _) (by decide))) (fun r63 M63 z => ?_)
        obtain ⟨rfl, rfl⟩ := z
        show zV G (eX6_purse (g_rmv 4)) (0, 0) 66 [(0, .ref 0), (1, .int (nI p)), (2, .int y), (3, .int (nI (ld_in S.1 p)))] [.int (nI (ld_sum S.1 (ld_in S.1 p)))] (mm I J t) _
        exact zV_ireturn dX6_purse_66 rfl rfl (PC.same hC hw (by subst h24; unfold op_purse; rw [if_pos h4, if_neg (show ¬ nI 1 = nI 0 by decide), if_pos rfl, tn_nI (show p < 2 ^ 31 by omega)]) (fun _ _ => rfl))
      · refine ⟨_, 67, rfl, rfl, ?_⟩
        refine zV_iload_n dX6_purse_67 rfl 3 rfl rfl ?_
        refine zV_aload_n dX6_purse_68 rfl 0 rfl rfl ?_
        refine zV_getr (q' := 1) 0 dX6_purse_69 rfl fl_RX6_12 rfl (by decide) rfl rfl ?_
        refine zV_iconst (v := (nI 1)) dX6_purse_72 rfl rfl ?_
        refine zV_callV (E' := eX1_coinsLying (g_rmv 0)) (av := [.int (nI 1)]) (st := [.int (nI (ld_in S.1 p))]) (b := 1) dX6_purse_73 rfl (k_RX6_133 _) rfl ⟨by decide, by decide⟩ ⟨by decide, by decide⟩ (Or.inl rfl) rfl (Nat.le_of_ble_eq_true rfl) (sh_land (Or.inl rfl)) rfl rfl (c_coinsLying (p := 1) (Or.inl rfl) hC.1 hw.1 (by decide)) (fun r73 M73 z => ?_)
        obtain ⟨rfl, rfl⟩ := z
        show zV G (eX6_purse (g_rmv 4)) (0, 0) 76 [(0, .ref 0), (1, .int (nI p)), (2, .int y), (3, .int (nI (ld_in S.1 p)))] [.int (nI (ld_ly S.1 1)), .int (nI (ld_in S.1 p))] (mm I J t) _
        refine zA_iand (z := (nI ((ld_in S.1 p) &&& (ld_ly S.1 1)))) dX6_purse_76 rfl  (fa_and _ _) ?_
        exact zV_ireturn dX6_purse_77 rfl rfl (PC.same hC hw (by subst h24; unfold op_purse; rw [if_pos h4, if_neg (show ¬ nI 2 = nI 0 by decide), if_neg (show ¬ nI 2 = nI 1 by decide), if_pos rfl, tn_nI (show p < 2 ^ 31 by omega)]) (fun _ _ => rfl))
      · refine ⟨_, 78, rfl, rfl, ?_⟩
        refine zV_aload_n dX6_purse_78 rfl 0 rfl rfl ?_
        refine zV_getr (q' := 1) 0 dX6_purse_79 rfl fl_RX6_12 rfl (by decide) rfl rfl ?_
        refine zV_iload_n dX6_purse_82 rfl 3 rfl rfl ?_
        refine zV_callV (E' := eX1_worthIfTurned (g_rmv 3)) (av := [.int (nI (ld_in S.1 p))]) (st := []) (b := 1) dX6_purse_83 rfl (k_RX6_136 _) rfl ⟨by decide, by decide⟩ ⟨by decide, by decide⟩ (Or.inl rfl) rfl (Nat.le_of_ble_eq_true rfl) (sh_land (Or.inl rfl)) rfl rfl (c_worthIfTurned (s := (ld_in S.1 p)) (Or.inl rfl) hC.1 hw.1 (Nat.lt_trans (ld_in_lt n10 _) (by decide))) (fun r83 M83 z => ?_)
        obtain ⟨rfl, rfl⟩ := z
        show zV G (eX6_purse (g_rmv 4)) (0, 0) 86 [(0, .ref 0), (1, .int (nI p)), (2, .int y), (3, .int (nI (ld_in S.1 p)))] [.int (nI (ld_sumT S.1 (ld_in S.1 p)))] (mm I J t) _
        exact zV_ireturn dX6_purse_86 rfl rfl (PC.same hC hw (by subst h24; unfold op_purse; rw [if_pos h4, if_neg (show ¬ nI 3 = nI 0 by decide), if_neg (show ¬ nI 3 = nI 1 by decide), if_neg (show ¬ nI 3 = nI 2 by decide), if_pos rfl, tn_nI (show p < 2 ^ 31 by omega)]) (fun _ _ => rfl))
  · refine zV_aload_n dX6_purse_7 rfl 0 rfl rfl ?_
    refine zV_ldc (v := (-1000001)) dX6_purse_8 rfl tw264 ?_
    refine zV_callV (E' := eX6_tell (g_rmv 1)) (av := [.int (-1000001)]) (st := []) (b := 0) dX6_purse_10 rfl (k_RX6_70 _) rfl ⟨by decide, by decide⟩ ⟨by decide, by decide⟩ (Or.inl rfl) rfl (Nat.le_of_ble_eq_true rfl) rfl rfl rfl (c_tell (w := 0) (by decide) (by decide)) (fun r10 M10 z => ?_)
    obtain ⟨rfl, rfl⟩ := z
    show zV G (eX6_purse (g_rmv 4)) (0, 0) 13 [(0, .ref 0), (1, .int x), (2, .int y)] [.int (fdg 0)] (mm (up2 I 67 0 (I 67 0 + nI 1)) J t) _
    exact zV_ireturn dX6_purse_13 rfl rfl (PC.tell hC hw (by unfold op_purse; rw [if_neg h4]) (fun _ _ => rfl))

set_option maxRecDepth 100000 in
theorem p_pay {G : mG} {I : Nat → Nat → Int32} {J : Nat → Nat → Int64} {t : Nat} {B : Nat} {S : aS} (hC : InvC I S) (hw : wfS B S) (hB : B + 4 < 1000000) {x y z : Int32} : zC G yX6_pay (eX6_pay (g_rmv 4)) [.ref 0, .int x, .int y, .int z] (mm I J t) (fun r M => PC I (op_pay S x y z) r M) := by
  refine zC_of (by decide +kernel) rfl (by decide) (Nat.le_of_ble_eq_true rfl) ?_
  have n10 := hw.1.1
  show zV G (eX6_pay (g_rmv 4)) (0, 0) 0 [(0, .ref 0), (1, .int x), (2, .int y), (3, .int z)] [] (mm I J t) _
  refine zV_iload_n dX6_pay_0 rfl 1 rfl rfl ?_
  refine zV_iload_n dX6_pay_1 rfl 2 rfl rfl ?_
  refine zV_callS (E' := eX6_areTwoPurses (g_rmv 2)) (av := [.int x, .int y]) (st := []) dX6_pay_2 rfl (k_RX6_142 _) rfl ⟨by decide, by decide⟩ ⟨by decide, by decide⟩ (Or.inl rfl) rfl (Nat.le_of_ble_eq_true rfl) (c_two (x := x) (y := y)) (fun r2 M2 z => ?_)
  obtain ⟨rfl, rfl⟩ := z
  show zV G (eX6_pay (g_rmv 4)) (0, 0) 5 [(0, .ref 0), (1, .int x), (2, .int y), (3, .int z)] [.int (b2 (twoP x y))] (mm I J t) _
  refine zB_if_eq (tgt := 19) dX6_pay_5 rfl rfl  (fun h5 => ?_) (fun h5 => ?_)
  · refine zV_aload_n dX6_pay_19 rfl 0 rfl rfl ?_
    refine zV_ldc (v := (-1000001)) dX6_pay_20 rfl tw264 ?_
    refine zV_callV (E' := eX6_tell (g_rmv 1)) (av := [.int (-1000001)]) (st := []) (b := 0) dX6_pay_22 rfl (k_RX6_70 _) rfl ⟨by decide, by decide⟩ ⟨by decide, by decide⟩ (Or.inl rfl) rfl (Nat.le_of_ble_eq_true rfl) rfl rfl rfl (c_tell (w := 0) (by decide) (by decide)) (fun r22 M22 z => ?_)
    obtain ⟨rfl, rfl⟩ := z
    show zV G (eX6_pay (g_rmv 4)) (0, 0) 25 [(0, .ref 0), (1, .int x), (2, .int y), (3, .int z)] [.int (fdg 0)] (mm (up2 I 67 0 (I 67 0 + nI 1)) J t) _
    exact zV_ireturn dX6_pay_25 rfl rfl (PC.tell hC hw (by unfold op_pay; rw [if_neg h5]) (fun _ _ => rfl))
  · obtain ⟨p, q, hp, hq, hpq, rfl, rfl⟩ := z_two h5
    refine zV_aload_n dX6_pay_8 rfl 0 rfl rfl ?_
    refine zV_getr (q' := 1) 0 dX6_pay_9 rfl fl_RX6_12 rfl (by decide) rfl rfl ?_
    refine zV_iload_n dX6_pay_12 rfl 3 rfl rfl ?_
    refine zV_callV (E' := eX1_hasSet (g_rmv 1)) (av := [.int z]) (st := []) (b := 1) dX6_pay_13 rfl (k_RX6_139 _) rfl ⟨by decide, by decide⟩ ⟨by decide, by decide⟩ (Or.inl rfl) rfl (Nat.le_of_ble_eq_true rfl) (sh_land (Or.inl rfl)) rfl rfl (c_hasSet (x := z) (Or.inl rfl) hC.1 hw.1) (fun r13 M13 z => ?_)
    obtain ⟨rfl, rfl⟩ := z
    show zV G (eX6_pay (g_rmv 4)) (0, 0) 16 [(0, .ref 0), (1, .int (nI p)), (2, .int (nI q)), (3, .int z)] [.int (b2 (isSet S.1.1 z))] (mm I J t) _
    refine zB_if_ne (tgt := 26) dX6_pay_16 rfl rfl  (fun h16 => ?_) (fun h16 => ?_)
    · obtain ⟨s, hs, hs1, rfl⟩ := z_sets n10 h16
      refine zV_iload_n dX6_pay_26 rfl 3 rfl rfl ?_
      refine zV_aload_n dX6_pay_27 rfl 0 rfl rfl ?_
      refine zV_getr (q' := 1) 0 dX6_pay_28 rfl fl_RX6_12 rfl (by decide) rfl rfl ?_
      refine zV_iload_n dX6_pay_31 rfl 1 rfl rfl ?_
      refine zV_callV (E' := eX1_coinsIn (g_rmv 0)) (av := [.int (nI p)]) (st := [.int (nI s)]) (b := 1) dX6_pay_32 rfl (k_RX6_127 _) rfl ⟨by decide, by decide⟩ ⟨by decide, by decide⟩ (Or.inl rfl) rfl (Nat.le_of_ble_eq_true rfl) (sh_land (Or.inl rfl)) rfl rfl (c_coinsIn (p := p) (Or.inl rfl) hC.1 hw.1 (by omega)) (fun r32 M32 z => ?_)
      obtain ⟨rfl, rfl⟩ := z
      show zV G (eX6_pay (g_rmv 4)) (0, 0) 35 [(0, .ref 0), (1, .int (nI p)), (2, .int (nI q)), (3, .int (nI s))] [.int (nI (ld_in S.1 p)), .int (nI s)] (mm I J t) _
      refine zV_iconst (v := (-1)) dX6_pay_35 rfl rfl ?_
      refine zA_ixor (z := ((nI (ld_in S.1 p)) ^^^ (-1))) dX6_pay_36 rfl  (rfl) ?_
      refine zA_iand (z := ((nI s) &&& ((nI (ld_in S.1 p)) ^^^ (-1)))) dX6_pay_37 rfl  (rfl) ?_
      refine zV_if_eq (tgt := 48) dX6_pay_38 rfl rfl  (fun h38 => ?_) (fun h38 => ?_)
      · refine zV_aload_n dX6_pay_48 rfl 0 rfl rfl ?_
        refine zV_getr (q' := 1) 0 dX6_pay_49 rfl fl_RX6_12 rfl (by decide) rfl rfl ?_
        refine zV_iload_n dX6_pay_52 rfl 3 rfl rfl ?_
        refine zV_callV (E' := eX1_worthOf (g_rmv 3)) (av := [.int (nI s)]) (st := []) (b := 1) dX6_pay_53 rfl (k_RX6_130 _) rfl ⟨by decide, by decide⟩ ⟨by decide, by decide⟩ (Or.inl rfl) rfl (Nat.le_of_ble_eq_true rfl) (sh_land (Or.inl rfl)) rfl rfl (c_worthOf (s := s) (Or.inl rfl) hC.1 hw.1 (by omega)) (fun r53 M53 z => ?_)
        obtain ⟨rfl, rfl⟩ := z
        show zV G (eX6_pay (g_rmv 4)) (0, 0) 56 [(0, .ref 0), (1, .int (nI p)), (2, .int (nI q)), (3, .int (nI s))] [.int (nI (ld_sum S.1 s))] (mm I J t) _
        refine zV_istore (lv' := [(0, .ref 0), (1, .int (nI p)), (2, .int (nI q)), (3, .int (nI s)), (4, .int (nI (ld_sum S.1 s)))]) dX6_pay_56 rfl (by decide) rfl ?_
        refine zV_aload_n dX6_pay_58 rfl 0 rfl rfl ?_
        refine zV_getr (q' := 1) 0 dX6_pay_59 rfl fl_RX6_12 rfl (by decide) rfl rfl ?_
        refine zV_iload_n dX6_pay_62 rfl 3 rfl rfl ?_
        refine zV_iload_n dX6_pay_63 rfl 2 rfl rfl ?_
        refine zV_callV (E' := eX1_paySet (g_rmv 3)) (av := [.int (nI s), .int (nI q)]) (st := []) (b := 1) dX6_pay_64 rfl (k_RX6_146 _) rfl ⟨by decide, by decide⟩ ⟨by decide, by decide⟩ (Or.inl rfl) rfl (Nat.le_of_ble_eq_true rfl) (sh_land (Or.inl rfl)) rfl rfl (c_paySet (s := s) (to := q) (Or.inl rfl) hC.1 hw.1 (by omega) (by omega)) (fun r64 M64 z => ?_)
        obtain ⟨I64, rfl, rfl, hA64, hF64⟩ := z
        have hW64 := wf_payA (s := s) (to := q) hw.1 (by omega) (by omega)
        show zV G (eX6_pay (g_rmv 4)) (0, 0) 67 [(0, .ref 0), (1, .int (nI p)), (2, .int (nI q)), (3, .int (nI s)), (4, .int (nI (ld_sum S.1 s)))] [] (mm I64 J t) _
        refine zV_iload dX6_pay_67 rfl 4 rfl ?_
        exact zV_ireturn dX6_pay_69 rfl rfl (PC.land hC hw (by unfold op_pay; rw [if_pos h5, if_pos h16, tn_nI (show p < 2 ^ 31 by omega), if_pos h38, tn_nI (show s < 2 ^ 31 by omega), tn_nI (show q < 2 ^ 31 by omega)]) hA64 hF64.one)
      · refine zV_aload_n dX6_pay_41 rfl 0 rfl rfl ?_
        refine zV_ldc (v := (-1000005)) dX6_pay_42 rfl tw370 ?_
        refine zV_callV (E' := eX6_tell (g_rmv 1)) (av := [.int (-1000005)]) (st := []) (b := 0) dX6_pay_44 rfl (k_RX6_70 _) rfl ⟨by decide, by decide⟩ ⟨by decide, by decide⟩ (Or.inl rfl) rfl (Nat.le_of_ble_eq_true rfl) rfl rfl rfl (c_tell (w := 4) (by decide) (by decide)) (fun r44 M44 z => ?_)
        obtain ⟨rfl, rfl⟩ := z
        show zV G (eX6_pay (g_rmv 4)) (0, 0) 47 [(0, .ref 0), (1, .int (nI p)), (2, .int (nI q)), (3, .int (nI s))] [.int (fdg 4)] (mm (up2 I 67 4 (I 67 4 + nI 1)) J t) _
        exact zV_ireturn dX6_pay_47 rfl rfl (PC.tell hC hw (by unfold op_pay; rw [if_pos h5, if_pos h16, tn_nI (show p < 2 ^ 31 by omega), if_neg h38]) (fun _ _ => rfl))
    · refine zV_aload_n dX6_pay_19 rfl 0 rfl rfl ?_
      refine zV_ldc (v := (-1000001)) dX6_pay_20 rfl tw264 ?_
      refine zV_callV (E' := eX6_tell (g_rmv 1)) (av := [.int (-1000001)]) (st := []) (b := 0) dX6_pay_22 rfl (k_RX6_70 _) rfl ⟨by decide, by decide⟩ ⟨by decide, by decide⟩ (Or.inl rfl) rfl (Nat.le_of_ble_eq_true rfl) rfl rfl rfl (c_tell (w := 0) (by decide) (by decide)) (fun r22 M22 z => ?_)
      obtain ⟨rfl, rfl⟩ := z
      show zV G (eX6_pay (g_rmv 4)) (0, 0) 25 [(0, .ref 0), (1, .int (nI p)), (2, .int (nI q)), (3, .int z)] [.int (fdg 0)] (mm (up2 I 67 0 (I 67 0 + nI 1)) J t) _
      exact zV_ireturn dX6_pay_25 rfl rfl (PC.tell hC hw (by unfold op_pay; rw [if_pos h5, if_neg h16]) (fun _ _ => rfl))

set_option maxRecDepth 100000 in
theorem p_there {G : mG} {I : Nat → Nat → Int32} {J : Nat → Nat → Int64} {t : Nat} {B : Nat} {S : aS} (hC : InvC I S) (hw : wfS B S) (hB : B + 4 < 1000000) {x y : Int32} : zC G yX6_there (eX6_there (g_rmv 4)) [.ref 0, .int x, .int y] (mm I J t) (fun r M => PC I (op_there S x y) r M) := by
  refine zC_of (by decide +kernel) rfl (by decide) (Nat.le_of_ble_eq_true rfl) ?_
  have n10 := hw.1.1
  show zV G (eX6_there (g_rmv 4)) (0, 0) 0 [(0, .ref 0), (1, .int x), (2, .int y)] [] (mm I J t) _
  refine zV_iload_n dX6_there_0 rfl 1 rfl rfl ?_
  refine zV_iload_n dX6_there_1 rfl 2 rfl rfl ?_
  refine zV_callS (E' := eX6_areTwoPurses (g_rmv 2)) (av := [.int x, .int y]) (st := []) dX6_there_2 rfl (k_RX6_142 _) rfl ⟨by decide, by decide⟩ ⟨by decide, by decide⟩ (Or.inl rfl) rfl (Nat.le_of_ble_eq_true rfl) (c_two (x := x) (y := y)) (fun r2 M2 z => ?_)
  obtain ⟨rfl, rfl⟩ := z
  show zV G (eX6_there (g_rmv 4)) (0, 0) 5 [(0, .ref 0), (1, .int x), (2, .int y)] [.int (b2 (twoP x y))] (mm I J t) _
  refine zB_if_ne (tgt := 15) dX6_there_5 rfl rfl  (fun h5 => ?_) (fun h5 => ?_)
  · obtain ⟨p, q, hp, hq, hpq, rfl, rfl⟩ := z_two h5
    refine zV_aload_n dX6_there_15 rfl 0 rfl rfl ?_
    refine zV_getr (q' := 1) 0 dX6_there_16 rfl fl_RX6_12 rfl (by decide) rfl rfl ?_
    refine zV_iload_n dX6_there_19 rfl 1 rfl rfl ?_
    refine zV_callV (E' := eX1_coinsIn (g_rmv 0)) (av := [.int (nI p)]) (st := []) (b := 1) dX6_there_20 rfl (k_RX6_127 _) rfl ⟨by decide, by decide⟩ ⟨by decide, by decide⟩ (Or.inl rfl) rfl (Nat.le_of_ble_eq_true rfl) (sh_land (Or.inl rfl)) rfl rfl (c_coinsIn (p := p) (Or.inl rfl) hC.1 hw.1 (by omega)) (fun r20 M20 z => ?_)
    obtain ⟨rfl, rfl⟩ := z
    show zV G (eX6_there (g_rmv 4)) (0, 0) 23 [(0, .ref 0), (1, .int (nI p)), (2, .int (nI q))] [.int (nI (ld_in S.1 p))] (mm I J t) _
    refine zV_istore_n (lv' := [(0, .ref 0), (1, .int (nI p)), (2, .int (nI q)), (3, .int (nI (ld_in S.1 p)))]) dX6_there_23 rfl rfl (by decide) rfl ?_
    refine zV_aload_n dX6_there_24 rfl 0 rfl rfl ?_
    refine zV_getr (q' := 1) 0 dX6_there_25 rfl fl_RX6_12 rfl (by decide) rfl rfl ?_
    refine zV_iload_n dX6_there_28 rfl 3 rfl rfl ?_
    refine zV_callV (E' := eX1_worthOf (g_rmv 3)) (av := [.int (nI (ld_in S.1 p))]) (st := []) (b := 1) dX6_there_29 rfl (k_RX6_130 _) rfl ⟨by decide, by decide⟩ ⟨by decide, by decide⟩ (Or.inl rfl) rfl (Nat.le_of_ble_eq_true rfl) (sh_land (Or.inl rfl)) rfl rfl (c_worthOf (s := (ld_in S.1 p)) (Or.inl rfl) hC.1 hw.1 (Nat.lt_trans (ld_in_lt n10 _) (by decide))) (fun r29 M29 z => ?_)
    obtain ⟨rfl, rfl⟩ := z
    show zV G (eX6_there (g_rmv 4)) (0, 0) 32 [(0, .ref 0), (1, .int (nI p)), (2, .int (nI q)), (3, .int (nI (ld_in S.1 p)))] [.int (nI (ld_sum S.1 (ld_in S.1 p)))] (mm I J t) _
    refine zV_istore (lv' := [(0, .ref 0), (1, .int (nI p)), (2, .int (nI q)), (3, .int (nI (ld_in S.1 p))), (4, .int (nI (ld_sum S.1 (ld_in S.1 p))))]) dX6_there_32 rfl (by decide) rfl ?_
    refine zV_aload_n dX6_there_34 rfl 0 rfl rfl ?_
    refine zV_getr (q' := 1) 0 dX6_there_35 rfl fl_RX6_12 rfl (by decide) rfl rfl ?_
    refine zV_iload_n dX6_there_38 rfl 3 rfl rfl ?_
    refine zV_iload_n dX6_there_39 rfl 2 rfl rfl ?_
    refine zV_callV (E' := eX1_paySet (g_rmv 3)) (av := [.int (nI (ld_in S.1 p)), .int (nI q)]) (st := []) (b := 1) dX6_there_40 rfl (k_RX6_146 _) rfl ⟨by decide, by decide⟩ ⟨by decide, by decide⟩ (Or.inl rfl) rfl (Nat.le_of_ble_eq_true rfl) (sh_land (Or.inl rfl)) rfl rfl (c_paySet (s := (ld_in S.1 p)) (to := q) (Or.inl rfl) hC.1 hw.1 (Nat.lt_trans (ld_in_lt n10 _) (by decide)) (by omega)) (fun r40 M40 z => ?_)
    obtain ⟨I40, rfl, rfl, hA40, hF40⟩ := z
    have hW40 := wf_payA (s := (ld_in S.1 p)) (to := q) hw.1 (by omega) (by omega)
    show zV G (eX6_there (g_rmv 4)) (0, 0) 43 [(0, .ref 0), (1, .int (nI p)), (2, .int (nI q)), (3, .int (nI (ld_in S.1 p))), (4, .int (nI (ld_sum S.1 (ld_in S.1 p))))] [] (mm I40 J t) _
    refine zV_aload_n dX6_there_43 rfl 0 rfl rfl ?_
    refine zV_getr (q' := 1) 0 dX6_there_44 rfl fl_RX6_12 rfl (by decide) rfl rfl ?_
    refine zV_iload_n dX6_there_47 rfl 3 rfl rfl ?_
    refine zV_iload_n dX6_there_48 rfl 1 rfl rfl ?_
    refine zV_callV (E' := eX1_paySet (g_rmv 3)) (av := [.int (nI (ld_in S.1 p)), .int (nI p)]) (st := []) (b := 1) dX6_there_49 rfl (k_RX6_146 _) rfl ⟨by decide, by decide⟩ ⟨by decide, by decide⟩ (Or.inl rfl) rfl (Nat.le_of_ble_eq_true rfl) (sh_land (Or.inl rfl)) rfl rfl (c_paySet (s := (ld_in S.1 p)) (to := p) (Or.inl rfl) hA40 hW40 (Nat.lt_trans (ld_in_lt n10 _) (by decide)) (by omega)) (fun r49 M49 z => ?_)
    obtain ⟨I49, rfl, rfl, hA49, hF49⟩ := z
    have hW49 := wf_payA (s := (ld_in S.1 p)) (to := p) hW40 (by omega) (by omega)
    show zV G (eX6_there (g_rmv 4)) (0, 0) 52 [(0, .ref 0), (1, .int (nI p)), (2, .int (nI q)), (3, .int (nI (ld_in S.1 p))), (4, .int (nI (ld_sum S.1 (ld_in S.1 p))))] [] (mm I49 J t) _
    refine zV_aload_n dX6_there_52 rfl 0 rfl rfl ?_
    refine zV_getr (q' := 1) 0 dX6_there_53 rfl fl_RX6_12 rfl (by decide) rfl rfl ?_
    refine zV_iload_n dX6_there_56 rfl 3 rfl rfl ?_
    refine zV_callV (E' := eX1_worthOf (g_rmv 3)) (av := [.int (nI (ld_in S.1 p))]) (st := []) (b := 1) dX6_there_57 rfl (k_RX6_130 _) rfl ⟨by decide, by decide⟩ ⟨by decide, by decide⟩ (Or.inl rfl) rfl (Nat.le_of_ble_eq_true rfl) (sh_land (Or.inl rfl)) rfl rfl (c_worthOf (s := (ld_in S.1 p)) (Or.inl rfl) hA49 hW49 (Nat.lt_trans (ld_in_lt n10 _) (by decide))) (fun r57 M57 z => ?_)
    obtain ⟨rfl, rfl⟩ := z
    show zV G (eX6_there (g_rmv 4)) (0, 0) 60 [(0, .ref 0), (1, .int (nI p)), (2, .int (nI q)), (3, .int (nI (ld_in S.1 p))), (4, .int (nI (ld_sum S.1 (ld_in S.1 p))))] [.int (nI (ld_sum (ld_payA (ld_payA S.1 (ld_in S.1 p) q) (ld_in S.1 p) p) (ld_in S.1 p)))] (mm I49 J t) _
    refine zV_iload dX6_there_60 rfl 4 rfl ?_
    refine zA_isub (z := ((nI (ld_sum (ld_payA (ld_payA S.1 (ld_in S.1 p) q) (ld_in S.1 p) p) (ld_in S.1 p))) - (nI (ld_sum S.1 (ld_in S.1 p))))) dX6_there_62 rfl  (rfl) ?_
    exact zV_ireturn dX6_there_63 rfl rfl (PC.land hC hw (by unfold op_there; rw [if_pos h5, tn_nI (show p < 2 ^ 31 by omega), tn_nI (show q < 2 ^ 31 by omega)]; rfl) hA49 (hF40.tr hF49).one)
  · refine zV_aload_n dX6_there_8 rfl 0 rfl rfl ?_
    refine zV_ldc (v := (-1000001)) dX6_there_9 rfl tw264 ?_
    refine zV_callV (E' := eX6_tell (g_rmv 1)) (av := [.int (-1000001)]) (st := []) (b := 0) dX6_there_11 rfl (k_RX6_70 _) rfl ⟨by decide, by decide⟩ ⟨by decide, by decide⟩ (Or.inl rfl) rfl (Nat.le_of_ble_eq_true rfl) rfl rfl rfl (c_tell (w := 0) (by decide) (by decide)) (fun r11 M11 z => ?_)
    obtain ⟨rfl, rfl⟩ := z
    show zV G (eX6_there (g_rmv 4)) (0, 0) 14 [(0, .ref 0), (1, .int x), (2, .int y)] [.int (fdg 0)] (mm (up2 I 67 0 (I 67 0 + nI 1)) J t) _
    exact zV_ireturn dX6_there_14 rfl rfl (PC.tell hC hw (by unfold op_there; rw [if_neg h5]) (fun _ _ => rfl))
