/-! REACH: rows: spread, gather, isReached, firstUnreached -/
theorem zs_neg {m a : Nat} (h : m < a) (ha : a < 2 ^ 30) : nI m - nI a < 0 ∧ nI m - nI a < nI 1 := by
  have e : (nI m - nI a).toInt = (m : Int) - a := pk_sub_toInt (by omega) (by omega)
  constructor
  · rw [Int32.lt_iff_toInt_lt, e, show (0 : Int32).toInt = 0 from rfl]
    omega
  · rw [Int32.lt_iff_toInt_lt, e, show (nI 1).toInt = 1 from rfl]
    omega
theorem i_dec (m : Nat) : nI m + (-1) = nI m - nI 1 := by
  rw [Int32.sub_eq_add_neg]
  rfl
theorem lgc_0 {x : Int64} : lg_cmp x 0 = 0 ↔ x = 0 := by
  constructor
  · intro h
    unfold lg_cmp at h
    by_cases e : x > 0
    · rw [if_pos e] at h
      exact absurd h (by decide)
    · rw [if_neg e] at h
      by_cases e2 : x = 0
      · exact e2
      · rw [if_neg e2] at h
        exact absurd h (by decide)
  · intro h
    rw [h]
    exact lgc_eq 0
theorem jb_start {J : Nat → Nat → Int64} {r : Nat} (h : ∀ w, w < 16 → J r w = if w = 0 then 1 else 0) {k : Nat} (hk : k < 1024) : jb J r k = decide (k = 0) := by
  unfold jb
  rw [h (k / 64) (by omega)]
  by_cases e : k / 64 = 0
  · rw [if_pos e]
    show (BitVec.ofNat 64 1).getLsbD (k % 64) = _
    rw [BitVec.getLsbD_ofNat, decide_eq_true (show k % 64 < 64 by omega), Bool.true_and, show (1 : Nat) = 2 ^ 0 from rfl, Nat.testBit_two_pow]
    by_cases e2 : k = 0
    · subst e2; rfl
    · rw [decide_eq_false e2, decide_eq_false (by omega)]
  · rw [if_neg e, z64_0, decide_eq_false (by omega)]
set_option maxRecDepth 100000 in
theorem c_fillJ {G : mG} {I : Nat → Nat → Int32} {J : Nat → Nat → Int64} {t : Nat} {q : Nat} (hq : sh0[q]? = some (1, 1, 16)) {x : Int64} : zC G yJ7_fill_d0a16 (eJ7_fill_d0a16 (g_rmv 0)) [.ref q, .long x] (mm I J t) (fun r M => ∃ J', r = none ∧ M = mm I J' t ∧ (∀ j, j < 16 → J' q j = x) ∧ ∀ i, i ≠ q → J' i = J i) := by
  refine zC_of (by decide +kernel) rfl (by decide) (Nat.le_of_ble_eq_true rfl) ?_
  show zV G (eJ7_fill_d0a16 (g_rmv 0)) (0, 0) 0 [(0, .ref q), (1, .long x)] [] (mm I J t) _
  refine zV_iconst (v := (nI 0)) dJ7_fill_d0a16_0 rfl rfl ?_
  refine zV_istore_n (lv' := [(0, .ref q), (1, .long x), (3, .int (nI 0))]) dJ7_fill_d0a16_1 rfl rfl (by decide) rfl ?_
  refine zV_aload_n dJ7_fill_d0a16_2 rfl 0 rfl rfl ?_
  refine zV_alen (v := nI 16) dJ7_fill_d0a16_3 rfl hq (by decide) rfl ?_
  refine zV_istore (lv' := [(0, .ref q), (1, .long x), (3, .int (nI 0)), (4, .int (nI 16))]) dJ7_fill_d0a16_4 rfl (by decide) rfl ?_
  refine z_for (fun c => ∀ (J1 : Nat → Nat → Int64), ((∀ j, j < c → J1 q j = x) ∧ ∀ i, i ≠ q → J1 i = J i) → zV G (eJ7_fill_d0a16 (g_rmv 0)) (0, 0) 6 [(0, .ref q), (1, .long x), (3, .int (nI c)), (4, .int (nI 16))] [] (mm I J1 t) _) 16 ?_ ?_ 0 (Nat.zero_le _) J ⟨fun j h => absurd h (Nat.not_lt_zero _), fun _ _ => rfl⟩
  · intro J1 h1
    refine zV_iload_n dJ7_fill_d0a16_6 rfl 2 rfl rfl ?_
    refine zV_iload dJ7_fill_d0a16_7 rfl 3 rfl ?_
    refine zN_icmp_ge (tgt := 22) dJ7_fill_d0a16_9 rfl rfl (by omega) (by omega) (fun _ => ?_) (fun z => absurd z (by omega))
    exact zV_return dJ7_fill_d0a16_22 rfl (⟨J1, rfl, rfl, h1.1, h1.2⟩)
  · intro c hc ih
    intro J1 h1
    refine zV_iload_n dJ7_fill_d0a16_6 rfl 2 rfl rfl ?_
    refine zV_iload dJ7_fill_d0a16_7 rfl 3 rfl ?_
    refine zN_icmp_ge (tgt := 22) dJ7_fill_d0a16_9 rfl rfl (by omega) (by omega) (fun z => absurd z (by omega)) (fun _ => ?_)
    refine zV_aload_n dJ7_fill_d0a16_12 rfl 0 rfl rfl ?_
    refine zV_iload_n dJ7_fill_d0a16_13 rfl 2 rfl rfl ?_
    refine zV_lload_n dJ7_fill_d0a16_14 rfl 1 rfl rfl ?_
    refine zV_lastore c dJ7_fill_d0a16_15 rfl hq rfl (by omega) (by decide) ?_
    refine zV_iinc (y := (nI (c + 1))) (lv' := [(0, .ref q), (1, .long x), (3, .int (nI (c + 1))), (4, .int (nI 16))]) dJ7_fill_d0a16_16 rfl 2 rfl (nI_1 _) (by decide) rfl ?_
    refine zV_goto (tgt := 6) dJ7_fill_d0a16_19 rfl ?_
    exact ih _ ⟨fun j hj => by
        by_cases e : j = c
        · rw [e, up2_same]
        · rw [up2_nk e]; exact h1.1 j (by omega), fun i hi => by rw [← h1.2 i hi]; funext k; exact up2_ni hi⟩

set_option maxRecDepth 100000 in
theorem c_startRow {G : mG} {I : Nat → Nat → Int32} {J : Nat → Nat → Int64} {t : Nat}  : zC G yX2_startRow (eX2_startRow (g_rmv 1)) [.ref 44] (mm I J t) (fun r M => ∃ J', r = none ∧ M = mm I J' t ∧ (∀ w, w < 16 → J' 46 w = if w = 0 then 1 else 0) ∧ ∀ i, i ≠ 46 → J' i = J i) := by
  refine zC_of (by decide +kernel) rfl (by decide) (Nat.le_of_ble_eq_true rfl) ?_
  show zV G (eX2_startRow (g_rmv 1)) (0, 0) 0 [(0, .ref 44)] [] (mm I J t) _
  refine zV_aload_n dX2_startRow_0 rfl 0 rfl rfl ?_
  refine zV_getr (q' := 45) 0 dX2_startRow_1 rfl fl_RX2_13 rfl (by decide) rfl rfl ?_
  refine zV_iconst (v := (nI 0)) dX2_startRow_4 rfl rfl ?_
  refine zV_aaloadA (q' := (46 + 0)) 0 dX2_startRow_5 rfl rfl rfl (by decide) (by decide) (R_row (by decide)) ?_
  refine zV_lconst (v := 0) dX2_startRow_6 rfl rfl ?_
  refine zV_callS (E' := eJ7_fill_d0a16 (g_rmv 0)) (av := [.ref (46 + 0), .long 0]) (st := []) dX2_startRow_7 rfl (k_RX2_83 _) rfl ⟨by decide, by decide⟩ ⟨by decide, by decide⟩ (Or.inl rfl) rfl (Nat.le_of_ble_eq_true rfl) (c_fillJ (q := (46 + 0)) (x := 0) (sh_row (by decide))) (fun r7 M7 z => ?_)
  obtain ⟨J7, rfl, rfl, hX7, hF7⟩ := z
  show zV G (eX2_startRow (g_rmv 1)) (0, 0) 10 [(0, .ref 44)] [] (mm I J7 t) _
  refine zV_aload_n dX2_startRow_10 rfl 0 rfl rfl ?_
  refine zV_getr (q' := 45) 0 dX2_startRow_11 rfl fl_RX2_13 rfl (by decide) rfl rfl ?_
  refine zV_iconst (v := (nI 0)) dX2_startRow_14 rfl rfl ?_
  refine zV_aaloadA (q' := (46 + 0)) 0 dX2_startRow_15 rfl rfl rfl (by decide) (by decide) (R_row (by decide)) ?_
  refine zV_iconst (v := (nI 0)) dX2_startRow_16 rfl rfl ?_
  refine zV_lconst (v := 1) dX2_startRow_17 rfl rfl ?_
  refine zV_lastore 0 dX2_startRow_18 rfl (sh_row (by decide)) rfl (by decide) (by decide) ?_
  exact zV_return dX2_startRow_19 rfl (⟨_, rfl, rfl, fun w hw => by
    by_cases e : w = 0
    · rw [e, if_pos rfl]; exact up2_same _ _ _ _
    · rw [if_neg e]; exact (up2_nk e).trans (hX7 w hw), fun i hi => by rw [← hF7 i hi]; funext k; exact up2_ni hi⟩)

set_option maxRecDepth 100000 in
theorem c_spread {G : mG} {I : Nat → Nat → Int32} {J : Nat → Nat → Int64} {t : Nat} {a b n W : Nat} (ha : sh0[a]? = some (1, 1, 16)) (hb : sh0[b]? = some (1, 1, 16)) (hn : n ≤ 1000) (hW : W ≤ 16) (hI : I 44 3 = nI W) : zC G yX2_spread (eX2_spread (g_rmv 0)) [.ref 44, .ref a, .ref b, .int (nI n)] (mm I J t) (fun r M => ∃ J', r = none ∧ M = mm I J' t ∧ (∀ w, w < W → J' b w = spW (J a) n w) ∧ ∀ i, i ≠ b → J' i = J i) := by
  refine zC_of (by decide +kernel) rfl (by decide) (Nat.le_of_ble_eq_true rfl) ?_
  show zV G (eX2_spread (g_rmv 0)) (0, 0) 0 [(0, .ref 44), (1, .ref a), (2, .ref b), (3, .int (nI n))] [] (mm I J t) _
  refine zV_iload_n dX2_spread_0 rfl 3 rfl rfl ?_
  refine zV_bipush (v := (nI 6)) dX2_spread_1 rfl rfl ?_
  refine zA_ishr (z := (nI (n / 64))) dX2_spread_3 rfl  (pk_shrN (by omega) (nI 6 &&& 31) 6 (s_l 6 (by omega))) ?_
  refine zV_istore (lv' := [(0, .ref 44), (1, .ref a), (2, .ref b), (3, .int (nI n)), (4, .int (nI (n / 64)))]) dX2_spread_4 rfl (by decide) rfl ?_
  refine zV_iload_n dX2_spread_6 rfl 3 rfl rfl ?_
  refine zV_bipush (v := (nI 63)) dX2_spread_7 rfl rfl ?_
  refine zA_iand (z := (nI (n % 64))) dX2_spread_9 rfl  (fa_mask n 6) ?_
  refine zV_istore (lv' := [(0, .ref 44), (1, .ref a), (2, .ref b), (3, .int (nI n)), (4, .int (nI (n / 64))), (5, .int (nI (n % 64)))]) dX2_spread_10 rfl (by decide) rfl ?_
  refine zV_aload_n dX2_spread_12 rfl 0 rfl rfl ?_
  refine zV_getI (x := (nI W)) 3 dX2_spread_13 rfl fl_RX2_24 rfl (by decide) rfl hI ?_
  refine zV_iconst (v := (nI 1)) dX2_spread_16 rfl rfl ?_
  refine zA_isub (z := ((nI W) - (nI 1))) dX2_spread_17 rfl  (rfl) ?_
  refine zV_istore (lv' := [(0, .ref 44), (1, .ref a), (2, .ref b), (3, .int (nI n)), (4, .int (nI (n / 64))), (5, .int (nI (n % 64))), (6, .int ((nI W) - (nI 1)))]) dX2_spread_18 rfl (by decide) rfl ?_
  have hgo : ∀ m, m ≤ W → ∀ (J1 : Nat → Nat → Int64), ((∀ w, m ≤ w → w < W → J1 b w = spW (J a) n w) ∧ (∀ w, w < m → J1 b w = J b w) ∧ ∀ i, i ≠ b → J1 i = J i) → zV G (eX2_spread (g_rmv 0)) (0, 0) 20 [(0, .ref 44), (1, .ref a), (2, .ref b), (3, .int (nI n)), (4, .int (nI (n / 64))), (5, .int (nI (n % 64))), (6, .int (nI m - nI 1))] [] (mm I J1 t) (fun r M => ∃ J', r = none ∧ M = mm I J' t ∧ (∀ w, w < W → J' b w = spW (J a) n w) ∧ ∀ i, i ≠ b → J' i = J i) := by
    intro m
    induction m with
    | zero =>
      intro _ J1 h1
      refine zV_iload dX2_spread_20 rfl 6 rfl ?_
      refine zV_if_lt (tgt := 94) dX2_spread_22 rfl rfl  (fun _ => ?_) (fun z => absurd z (fun z => z (by decide)))
      exact zV_return dX2_spread_94 rfl (⟨J1, rfl, rfl, fun w hw => h1.1 w (Nat.zero_le _) hw, h1.2.2⟩)
    | succ m ih =>
      intro hm J1 h1
      rw [show nI (m + 1) - nI 1 = nI m from pk_sub (by omega)]
      have hrd : ∀ j, j ≤ m → J1 a j = J a j := fun j hj => by
        by_cases e : a = b
        · rw [e]; exact h1.2.1 j (by omega)
        · rw [h1.2.2 a e]
      refine zV_iload dX2_spread_20 rfl 6 rfl ?_
      refine zN_if_lt (tgt := 94) dX2_spread_22 rfl (by omega) rfl ?_
      refine zV_lconst (v := 0) dX2_spread_25 rfl rfl ?_
      refine zV_lstore (lv' := [(0, .ref 44), (1, .ref a), (2, .ref b), (3, .int (nI n)), (4, .int (nI (n / 64))), (5, .int (nI (n % 64))), (6, .int (nI m)), (7, .long 0)]) dX2_spread_26 rfl (by decide) rfl ?_
      by_cases c1 : m < n / 64
      · skip
        refine zV_iload dX2_spread_28 rfl 6 rfl ?_
        refine zV_iload dX2_spread_30 rfl 4 rfl ?_
        refine zA_isub (z := ((nI m) - (nI (n / 64)))) dX2_spread_32 rfl  (rfl) ?_
        refine zV_istore (lv' := [(0, .ref 44), (1, .ref a), (2, .ref b), (3, .int (nI n)), (4, .int (nI (n / 64))), (5, .int (nI (n % 64))), (6, .int (nI m)), (7, .long 0), (9, .int ((nI m) - (nI (n / 64))))]) dX2_spread_33 rfl (by decide) rfl ?_
        refine zV_iload dX2_spread_35 rfl 8 rfl ?_
        refine zV_if_lt (tgt := 49) dX2_spread_37 rfl rfl  (fun _ => ?_) (fun z => absurd z (fun z => z (zs_neg c1 (by omega)).1))
        refine zV_iload dX2_spread_49 rfl 8 rfl ?_
        refine zV_iconst (v := (nI 1)) dX2_spread_51 rfl rfl ?_
        refine zV_icmp_lt (tgt := 77) dX2_spread_52 rfl rfl  (fun _ => ?_) (fun z => absurd z (fun z => z (zs_neg c1 (by omega)).2))
        refine zV_aload_n dX2_spread_77 rfl 2 rfl rfl ?_
        refine zV_iload dX2_spread_78 rfl 6 rfl ?_
        refine zV_aload_n dX2_spread_80 rfl 1 rfl rfl ?_
        refine zV_iload dX2_spread_81 rfl 6 rfl ?_
        refine zV_laload m dX2_spread_83 rfl ha rfl (by omega) (by decide) ?_
        refine zV_lload dX2_spread_84 rfl 7 rfl ?_
        refine zA_lor (z := ((J1 a m) ||| 0)) dX2_spread_86 rfl  (rfl) ?_
        refine zV_lastore m dX2_spread_87 rfl hb rfl (by omega) (by decide) ?_
        refine zV_iinc (y := (nI m - nI 1)) (lv' := [(0, .ref 44), (1, .ref a), (2, .ref b), (3, .int (nI n)), (4, .int (nI (n / 64))), (5, .int (nI (n % 64))), (6, .int (nI m - nI 1)), (7, .long 0), (9, .int ((nI m) - (nI (n / 64))))]) dX2_spread_88 rfl 6 rfl (i_dec m) (by decide) rfl ?_
        refine zV_goto (tgt := 20) dX2_spread_91 rfl ?_
        refine zV_keep (lv' := [(0, .ref 44), (1, .ref a), (2, .ref b), (3, .int (nI n)), (4, .int (nI (n / 64))), (5, .int (nI (n % 64))), (6, .int (nI m - nI 1))]) [0, 1, 2, 3, 4, 5, 6] rfl ?_
        exact ih (by omega) _ ⟨fun w h2 h3 => by
            by_cases e : w = m
            · rw [e, up2_same]; unfold spW spM; rw [if_pos c1, ← hrd m (Nat.le_refl _)]
            · rw [up2_nk e]; exact h1.1 w (by omega) h3, fun w hw => by rw [up2_nk (by omega)]; exact h1.2.1 w (by omega), fun i hi => by rw [← h1.2.2 i hi]; funext k; exact up2_ni hi⟩
      · by_cases c2 : m = n / 64 ∨ n % 64 = 0
        · by_cases c3 : m = n / 64
          · skip
            refine zV_iload dX2_spread_28 rfl 6 rfl ?_
            refine zV_iload dX2_spread_30 rfl 4 rfl ?_
            refine zA_isub (z := (nI (m - n / 64))) dX2_spread_32 rfl  (pk_sub (by omega)) ?_
            refine zV_istore (lv' := [(0, .ref 44), (1, .ref a), (2, .ref b), (3, .int (nI n)), (4, .int (nI (n / 64))), (5, .int (nI (n % 64))), (6, .int (nI m)), (7, .long 0), (9, .int (nI (m - n / 64)))]) dX2_spread_33 rfl (by decide) rfl ?_
            refine zV_iload dX2_spread_35 rfl 8 rfl ?_
            refine zN_if_lt (tgt := 49) dX2_spread_37 rfl (by omega) rfl ?_
            refine zV_aload_n dX2_spread_40 rfl 1 rfl rfl ?_
            refine zV_iload dX2_spread_41 rfl 8 rfl ?_
            refine zV_laload (m - n / 64) dX2_spread_43 rfl ha rfl (by omega) (by decide) ?_
            refine zV_iload dX2_spread_44 rfl 5 rfl ?_
            refine zA_lshl (z := ((J1 a (m - n / 64)) <<< (((nI (n % 64)) : Int32).toInt64 &&& 63))) dX2_spread_46 rfl  (rfl) ?_
            refine zV_lstore (lv' := [(0, .ref 44), (1, .ref a), (2, .ref b), (3, .int (nI n)), (4, .int (nI (n / 64))), (5, .int (nI (n % 64))), (6, .int (nI m)), (7, .long ((J1 a (m - n / 64)) <<< (((nI (n % 64)) : Int32).toInt64 &&& 63))), (9, .int (nI (m - n / 64)))]) dX2_spread_47 rfl (by decide) rfl ?_
            refine zV_iload dX2_spread_49 rfl 8 rfl ?_
            refine zV_iconst (v := (nI 1)) dX2_spread_51 rfl rfl ?_
            refine zN_icmp_lt (tgt := 77) dX2_spread_52 rfl rfl (by omega) (by omega) (fun _ => ?_) (fun z => absurd z (by omega))
            refine zV_aload_n dX2_spread_77 rfl 2 rfl rfl ?_
            refine zV_iload dX2_spread_78 rfl 6 rfl ?_
            refine zV_aload_n dX2_spread_80 rfl 1 rfl rfl ?_
            refine zV_iload dX2_spread_81 rfl 6 rfl ?_
            refine zV_laload m dX2_spread_83 rfl ha rfl (by omega) (by decide) ?_
            refine zV_lload dX2_spread_84 rfl 7 rfl ?_
            refine zA_lor (z := ((J1 a m) ||| ((J1 a (m - n / 64)) <<< (((nI (n % 64)) : Int32).toInt64 &&& 63)))) dX2_spread_86 rfl  (rfl) ?_
            refine zV_lastore m dX2_spread_87 rfl hb rfl (by omega) (by decide) ?_
            refine zV_iinc (y := (nI m - nI 1)) (lv' := [(0, .ref 44), (1, .ref a), (2, .ref b), (3, .int (nI n)), (4, .int (nI (n / 64))), (5, .int (nI (n % 64))), (6, .int (nI m - nI 1)), (7, .long ((J1 a (m - n / 64)) <<< (((nI (n % 64)) : Int32).toInt64 &&& 63))), (9, .int (nI (m - n / 64)))]) dX2_spread_88 rfl 6 rfl (i_dec m) (by decide) rfl ?_
            refine zV_goto (tgt := 20) dX2_spread_91 rfl ?_
            refine zV_keep (lv' := [(0, .ref 44), (1, .ref a), (2, .ref b), (3, .int (nI n)), (4, .int (nI (n / 64))), (5, .int (nI (n % 64))), (6, .int (nI m - nI 1))]) [0, 1, 2, 3, 4, 5, 6] rfl ?_
            exact ih (by omega) _ ⟨fun w h2 h3 => by
                by_cases e : w = m
                · rw [e, up2_same]; unfold spW spM; rw [if_neg c1, if_pos c2, ← hrd m (Nat.le_refl _), ← hrd (m - n / 64) (by omega)]; rfl
                · rw [up2_nk e]; exact h1.1 w (by omega) h3, fun w hw => by rw [up2_nk (by omega)]; exact h1.2.1 w (by omega), fun i hi => by rw [← h1.2.2 i hi]; funext k; exact up2_ni hi⟩
          · skip
            refine zV_iload dX2_spread_28 rfl 6 rfl ?_
            refine zV_iload dX2_spread_30 rfl 4 rfl ?_
            refine zA_isub (z := (nI (m - n / 64))) dX2_spread_32 rfl  (pk_sub (by omega)) ?_
            refine zV_istore (lv' := [(0, .ref 44), (1, .ref a), (2, .ref b), (3, .int (nI n)), (4, .int (nI (n / 64))), (5, .int (nI (n % 64))), (6, .int (nI m)), (7, .long 0), (9, .int (nI (m - n / 64)))]) dX2_spread_33 rfl (by decide) rfl ?_
            refine zV_iload dX2_spread_35 rfl 8 rfl ?_
            refine zN_if_lt (tgt := 49) dX2_spread_37 rfl (by omega) rfl ?_
            refine zV_aload_n dX2_spread_40 rfl 1 rfl rfl ?_
            refine zV_iload dX2_spread_41 rfl 8 rfl ?_
            refine zV_laload (m - n / 64) dX2_spread_43 rfl ha rfl (by omega) (by decide) ?_
            refine zV_iload dX2_spread_44 rfl 5 rfl ?_
            refine zA_lshl (z := ((J1 a (m - n / 64)) <<< (((nI (n % 64)) : Int32).toInt64 &&& 63))) dX2_spread_46 rfl  (rfl) ?_
            refine zV_lstore (lv' := [(0, .ref 44), (1, .ref a), (2, .ref b), (3, .int (nI n)), (4, .int (nI (n / 64))), (5, .int (nI (n % 64))), (6, .int (nI m)), (7, .long ((J1 a (m - n / 64)) <<< (((nI (n % 64)) : Int32).toInt64 &&& 63))), (9, .int (nI (m - n / 64)))]) dX2_spread_47 rfl (by decide) rfl ?_
            refine zV_iload dX2_spread_49 rfl 8 rfl ?_
            refine zV_iconst (v := (nI 1)) dX2_spread_51 rfl rfl ?_
            refine zN_icmp_lt (tgt := 77) dX2_spread_52 rfl rfl (by omega) (by omega) (fun z => absurd z (by omega)) (fun _ => ?_)
            refine zV_iload dX2_spread_55 rfl 5 rfl ?_
            refine zN_if_le (tgt := 77) dX2_spread_57 rfl rfl (by omega) (fun _ => ?_) (fun z => absurd z (by omega))
            refine zV_aload_n dX2_spread_77 rfl 2 rfl rfl ?_
            refine zV_iload dX2_spread_78 rfl 6 rfl ?_
            refine zV_aload_n dX2_spread_80 rfl 1 rfl rfl ?_
            refine zV_iload dX2_spread_81 rfl 6 rfl ?_
            refine zV_laload m dX2_spread_83 rfl ha rfl (by omega) (by decide) ?_
            refine zV_lload dX2_spread_84 rfl 7 rfl ?_
            refine zA_lor (z := ((J1 a m) ||| ((J1 a (m - n / 64)) <<< (((nI (n % 64)) : Int32).toInt64 &&& 63)))) dX2_spread_86 rfl  (rfl) ?_
            refine zV_lastore m dX2_spread_87 rfl hb rfl (by omega) (by decide) ?_
            refine zV_iinc (y := (nI m - nI 1)) (lv' := [(0, .ref 44), (1, .ref a), (2, .ref b), (3, .int (nI n)), (4, .int (nI (n / 64))), (5, .int (nI (n % 64))), (6, .int (nI m - nI 1)), (7, .long ((J1 a (m - n / 64)) <<< (((nI (n % 64)) : Int32).toInt64 &&& 63))), (9, .int (nI (m - n / 64)))]) dX2_spread_88 rfl 6 rfl (i_dec m) (by decide) rfl ?_
            refine zV_goto (tgt := 20) dX2_spread_91 rfl ?_
            refine zV_keep (lv' := [(0, .ref 44), (1, .ref a), (2, .ref b), (3, .int (nI n)), (4, .int (nI (n / 64))), (5, .int (nI (n % 64))), (6, .int (nI m - nI 1))]) [0, 1, 2, 3, 4, 5, 6] rfl ?_
            exact ih (by omega) _ ⟨fun w h2 h3 => by
                by_cases e : w = m
                · rw [e, up2_same]; unfold spW spM; rw [if_neg c1, if_pos c2, ← hrd m (Nat.le_refl _), ← hrd (m - n / 64) (by omega)]; rfl
                · rw [up2_nk e]; exact h1.1 w (by omega) h3, fun w hw => by rw [up2_nk (by omega)]; exact h1.2.1 w (by omega), fun i hi => by rw [← h1.2.2 i hi]; funext k; exact up2_ni hi⟩
        · skip
          refine zV_iload dX2_spread_28 rfl 6 rfl ?_
          refine zV_iload dX2_spread_30 rfl 4 rfl ?_
          refine zA_isub (z := (nI (m - n / 64))) dX2_spread_32 rfl  (pk_sub (by omega)) ?_
          refine zV_istore (lv' := [(0, .ref 44), (1, .ref a), (2, .ref b), (3, .int (nI n)), (4, .int (nI (n / 64))), (5, .int (nI (n % 64))), (6, .int (nI m)), (7, .long 0), (9, .int (nI (m - n / 64)))]) dX2_spread_33 rfl (by decide) rfl ?_
          refine zV_iload dX2_spread_35 rfl 8 rfl ?_
          refine zN_if_lt (tgt := 49) dX2_spread_37 rfl (by omega) rfl ?_
          refine zV_aload_n dX2_spread_40 rfl 1 rfl rfl ?_
          refine zV_iload dX2_spread_41 rfl 8 rfl ?_
          refine zV_laload (m - n / 64) dX2_spread_43 rfl ha rfl (by omega) (by decide) ?_
          refine zV_iload dX2_spread_44 rfl 5 rfl ?_
          refine zA_lshl (z := ((J1 a (m - n / 64)) <<< (((nI (n % 64)) : Int32).toInt64 &&& 63))) dX2_spread_46 rfl  (rfl) ?_
          refine zV_lstore (lv' := [(0, .ref 44), (1, .ref a), (2, .ref b), (3, .int (nI n)), (4, .int (nI (n / 64))), (5, .int (nI (n % 64))), (6, .int (nI m)), (7, .long ((J1 a (m - n / 64)) <<< (((nI (n % 64)) : Int32).toInt64 &&& 63))), (9, .int (nI (m - n / 64)))]) dX2_spread_47 rfl (by decide) rfl ?_
          refine zV_iload dX2_spread_49 rfl 8 rfl ?_
          refine zV_iconst (v := (nI 1)) dX2_spread_51 rfl rfl ?_
          refine zN_icmp_lt (tgt := 77) dX2_spread_52 rfl rfl (by omega) (by omega) (fun z => absurd z (by omega)) (fun _ => ?_)
          refine zV_iload dX2_spread_55 rfl 5 rfl ?_
          refine zN_if_le (tgt := 77) dX2_spread_57 rfl rfl (by omega) (fun z => absurd z (by omega)) (fun _ => ?_)
          refine zV_lload dX2_spread_60 rfl 7 rfl ?_
          refine zV_aload_n dX2_spread_62 rfl 1 rfl rfl ?_
          refine zV_iload dX2_spread_63 rfl 8 rfl ?_
          refine zV_iconst (v := (nI 1)) dX2_spread_65 rfl rfl ?_
          refine zA_isub (z := (nI (m - n / 64 - 1))) dX2_spread_66 rfl  (pk_sub (by omega)) ?_
          refine zV_laload (m - n / 64 - 1) dX2_spread_67 rfl ha rfl (by omega) (by decide) ?_
          refine zV_bipush (v := (nI 64)) dX2_spread_68 rfl rfl ?_
          refine zV_iload dX2_spread_70 rfl 5 rfl ?_
          refine zA_isub (z := (nI (64 - n % 64))) dX2_spread_72 rfl  (pk_sub (by omega)) ?_
          refine zA_lushr (z := ((((J1 a (m - n / 64 - 1)) : Int64).toUInt64 >>> (((nI (64 - n % 64)) : Int32).toInt64.toUInt64 &&& Int64.toUInt64 63)).toInt64)) dX2_spread_73 rfl  (rfl) ?_
          refine zA_lor (z := (((J1 a (m - n / 64)) <<< (((nI (n % 64)) : Int32).toInt64 &&& 63)) ||| ((((J1 a (m - n / 64 - 1)) : Int64).toUInt64 >>> (((nI (64 - n % 64)) : Int32).toInt64.toUInt64 &&& Int64.toUInt64 63)).toInt64))) dX2_spread_74 rfl  (rfl) ?_
          refine zV_lstore (lv' := [(0, .ref 44), (1, .ref a), (2, .ref b), (3, .int (nI n)), (4, .int (nI (n / 64))), (5, .int (nI (n % 64))), (6, .int (nI m)), (7, .long (((J1 a (m - n / 64)) <<< (((nI (n % 64)) : Int32).toInt64 &&& 63)) ||| ((((J1 a (m - n / 64 - 1)) : Int64).toUInt64 >>> (((nI (64 - n % 64)) : Int32).toInt64.toUInt64 &&& Int64.toUInt64 63)).toInt64))), (9, .int (nI (m - n / 64)))]) dX2_spread_75 rfl (by decide) rfl ?_
          refine zV_aload_n dX2_spread_77 rfl 2 rfl rfl ?_
          refine zV_iload dX2_spread_78 rfl 6 rfl ?_
          refine zV_aload_n dX2_spread_80 rfl 1 rfl rfl ?_
          refine zV_iload dX2_spread_81 rfl 6 rfl ?_
          refine zV_laload m dX2_spread_83 rfl ha rfl (by omega) (by decide) ?_
          refine zV_lload dX2_spread_84 rfl 7 rfl ?_
          refine zA_lor (z := ((J1 a m) ||| (((J1 a (m - n / 64)) <<< (((nI (n % 64)) : Int32).toInt64 &&& 63)) ||| ((((J1 a (m - n / 64 - 1)) : Int64).toUInt64 >>> (((nI (64 - n % 64)) : Int32).toInt64.toUInt64 &&& Int64.toUInt64 63)).toInt64)))) dX2_spread_86 rfl  (rfl) ?_
          refine zV_lastore m dX2_spread_87 rfl hb rfl (by omega) (by decide) ?_
          refine zV_iinc (y := (nI m - nI 1)) (lv' := [(0, .ref 44), (1, .ref a), (2, .ref b), (3, .int (nI n)), (4, .int (nI (n / 64))), (5, .int (nI (n % 64))), (6, .int (nI m - nI 1)), (7, .long (((J1 a (m - n / 64)) <<< (((nI (n % 64)) : Int32).toInt64 &&& 63)) ||| ((((J1 a (m - n / 64 - 1)) : Int64).toUInt64 >>> (((nI (64 - n % 64)) : Int32).toInt64.toUInt64 &&& Int64.toUInt64 63)).toInt64))), (9, .int (nI (m - n / 64)))]) dX2_spread_88 rfl 6 rfl (i_dec m) (by decide) rfl ?_
          refine zV_goto (tgt := 20) dX2_spread_91 rfl ?_
          refine zV_keep (lv' := [(0, .ref 44), (1, .ref a), (2, .ref b), (3, .int (nI n)), (4, .int (nI (n / 64))), (5, .int (nI (n % 64))), (6, .int (nI m - nI 1))]) [0, 1, 2, 3, 4, 5, 6] rfl ?_
          exact ih (by omega) _ ⟨fun w h2 h3 => by
              by_cases e : w = m
              · rw [e, up2_same]; unfold spW spM; rw [if_neg c1, if_neg c2, ← hrd m (Nat.le_refl _), ← hrd (m - n / 64) (by omega), ← hrd (m - n / 64 - 1) (by omega)]; rfl
              · rw [up2_nk e]; exact h1.1 w (by omega) h3, fun w hw => by rw [up2_nk (by omega)]; exact h1.2.1 w (by omega), fun i hi => by rw [← h1.2.2 i hi]; funext k; exact up2_ni hi⟩
  exact hgo W (Nat.le_refl _) J ⟨fun w h2 h3 => absurd h3 (by omega), fun _ _ => rfl, fun _ _ => rfl⟩

set_option maxRecDepth 100000 in
theorem c_gather {G : mG} {I : Nat → Nat → Int32} {J : Nat → Nat → Int64} {t : Nat} {B : Nat} {σ : aL} (hA : absL I 1 σ) (hW : wfL B σ) {s : Nat} (hs : s < 2 ^ 31) : zC G yX2_gather (eX2_gather (g_rmv 3)) [.ref 44, .ref 1, .int (nI s)] (mm I J t) (fun r M => ∃ J', r = none ∧ M = mm (up2 I 44 3 (nI 16)) J' t ∧ (∀ k, k < 1024 → jb J' 46 k = rcd σ s k) ∧ ∀ i, i ≠ 46 → J' i = J i) := by
  refine zC_of (by decide +kernel) rfl (by decide) (Nat.le_of_ble_eq_true rfl) ?_
  have n10 := hW.1
  show zV G (eX2_gather (g_rmv 3)) (0, 0) 0 [(0, .ref 44), (1, .ref 1), (2, .int (nI s))] [] (mm I J t) _
  refine zV_aload_n dX2_gather_0 rfl 0 rfl rfl ?_
  refine zV_bipush (v := (nI 16)) dX2_gather_1 rfl rfl ?_
  refine zV_puti 3 dX2_gather_3 rfl fl_RX2_24 rfl (by decide) rfl rfl rfl ?_
  refine zV_aload_n dX2_gather_6 rfl 0 rfl rfl ?_
  refine zV_callV (E' := eX2_startRow (g_rmv 1)) (av := []) (st := []) (b := 44) dX2_gather_7 rfl (k_RX2_44 _) rfl ⟨by decide, by decide⟩ ⟨by decide, by decide⟩ (Or.inl rfl) rfl (Nat.le_of_ble_eq_true rfl) rfl rfl rfl c_startRow (fun r7 M7 z => ?_)
  obtain ⟨J7, rfl, rfl, hX7, hF7⟩ := z
  show zV G (eX2_gather (g_rmv 3)) (0, 0) 10 [(0, .ref 44), (1, .ref 1), (2, .int (nI s))] [] (mm (up2 I 44 3 (nI 16)) J7 t) _
  refine zV_iconst (v := (nI 0)) dX2_gather_10 rfl rfl ?_
  refine zV_istore_n (lv' := [(0, .ref 44), (1, .ref 1), (2, .int (nI s)), (3, .int (nI 0))]) dX2_gather_11 rfl rfl (by decide) rfl ?_
  refine z_for (fun c => ∀ (J1 : Nat → Nat → Int64), ((∀ k, k < 1024 → jb J1 46 k = rch (fun c => k_now (σ.2.1 c)) s c k) ∧ ∀ i, i ≠ 46 → J1 i = J i) → zV G (eX2_gather (g_rmv 3)) (0, 0) 12 [(0, .ref 44), (1, .ref 1), (2, .int (nI s)), (3, .int (nI c))] [] (mm (up2 I 44 3 (nI 16)) J1 t) _) σ.1 ?_ ?_ 0 (Nat.zero_le _) J7 ⟨fun k hk => jb_start hX7 hk, hF7⟩
  · intro J1 h1
    refine zV_iload_n dX2_gather_12 rfl 3 rfl rfl ?_
    refine zV_aload_n dX2_gather_13 rfl 1 rfl rfl ?_
    refine zV_getI (x := (nI σ.1)) 2 dX2_gather_14 rfl fl_RX2_47 (sh_land (Or.inl rfl)) (by decide) rfl (by rw [up2_ni (by decide)]; exact hA.1) ?_
    refine zN_icmp_ge (tgt := 59) dX2_gather_17 rfl rfl (by omega) (by omega) (fun _ => ?_) (fun z => absurd z (by omega))
    exact zV_return dX2_gather_59 rfl (⟨J1, rfl, rfl, h1.1, h1.2⟩)
  · intro c hc ih
    intro J1 h1
    have wb : k_now (σ.2.1 c) ≤ 100 := k_wIf_le (hW.2.1 c hc) _ _ _ _
    refine zV_iload_n dX2_gather_12 rfl 3 rfl rfl ?_
    refine zV_aload_n dX2_gather_13 rfl 1 rfl rfl ?_
    refine zV_getI (x := (nI σ.1)) 2 dX2_gather_14 rfl fl_RX2_47 (sh_land (Or.inl rfl)) (by decide) rfl (by rw [up2_ni (by decide)]; exact hA.1) ?_
    refine zN_icmp_ge (tgt := 59) dX2_gather_17 rfl rfl (by omega) (by omega) (fun z => absurd z (by omega)) (fun _ => ?_)
    refine zV_iload_n dX2_gather_20 rfl 2 rfl rfl ?_
    refine zV_iload_n dX2_gather_21 rfl 3 rfl rfl ?_
    refine zV_callSN (E' := eX6_holds (g_rmv 0)) (av := [.int (nI s), .int (nI c)]) (st := []) dX2_gather_22 rfl (k_RX2_52 _) rfl ⟨by decide, by decide⟩ ⟨by decide, by decide⟩ (Or.inl rfl) rfl (Nat.le_of_ble_eq_true rfl) (c_holds (s := s) (c := c) (by omega) (by omega)) (fun r22 M22 z => ?_)
    obtain ⟨rfl, rfl⟩ := z
    show zV G (eX2_gather (g_rmv 3)) (0, 0) 25 [(0, .ref 44), (1, .ref 1), (2, .int (nI s)), (3, .int (nI c))] [.int (b2 ((s).testBit c = true))] (mm (up2 I 44 3 (nI 16)) J1 t) _
    refine zB_if_eq (tgt := 53) dX2_gather_25 rfl rfl  (fun h25 => ?_) (fun h25 => ?_)
    · refine zV_iinc (y := (nI (c + 1))) (lv' := [(0, .ref 44), (1, .ref 1), (2, .int (nI s)), (3, .int (nI (c + 1)))]) dX2_gather_53 rfl 3 rfl (nI_1 _) (by decide) rfl ?_
      refine zV_goto (tgt := 12) dX2_gather_56 rfl ?_
      exact ih J1 ⟨fun k hk => by rw [rch_f h25]; exact h1.1 k hk, h1.2⟩
    · refine zV_aload_n dX2_gather_28 rfl 0 rfl rfl ?_
      refine zV_aload_n dX2_gather_29 rfl 0 rfl rfl ?_
      refine zV_getr (q' := 45) 0 dX2_gather_30 rfl fl_RX2_13 rfl (by decide) rfl rfl ?_
      refine zV_iconst (v := (nI 0)) dX2_gather_33 rfl rfl ?_
      refine zV_aaloadA (q' := (46 + 0)) 0 dX2_gather_34 rfl rfl rfl (by decide) (by decide) (R_row (by decide)) ?_
      refine zV_aload_n dX2_gather_35 rfl 0 rfl rfl ?_
      refine zV_getr (q' := 45) 0 dX2_gather_36 rfl fl_RX2_13 rfl (by decide) rfl rfl ?_
      refine zV_iconst (v := (nI 0)) dX2_gather_39 rfl rfl ?_
      refine zV_aaloadA (q' := (46 + 0)) 0 dX2_gather_40 rfl rfl rfl (by decide) (by decide) (R_row (by decide)) ?_
      refine zV_aload_n dX2_gather_41 rfl 1 rfl rfl ?_
      refine zV_getrX (q' := (1 + 1)) 0 dX2_gather_42 rfl fl_RX2_56 (sh_land (Or.inl rfl)) (by decide) rfl (R_coins (Or.inl rfl)) ?_
      refine zV_iload_n dX2_gather_45 rfl 3 rfl rfl ?_
      refine zV_aaload (q' := (1 + 3 + c)) c dX2_gather_46 rfl (sh_coins (Or.inl rfl)) rfl (by decide) rfl (by omega) (by decide) (R_coin (Or.inl rfl) (by omega)) ?_
      refine zV_callV (E' := eX0_worthNow (g_rmv 2)) (av := []) (st := [.ref (46 + 0), .ref (46 + 0), .ref 44]) (b := (1 + 3 + c)) dX2_gather_47 rfl (k_RX2_60 _) rfl ⟨by decide, by decide⟩ ⟨by decide, by decide⟩ (Or.inl rfl) rfl (Nat.le_of_ble_eq_true rfl) (sh_coin (Or.inl rfl) (by omega)) rfl rfl (c_worthNow (sh_coin (Or.inl rfl) (by omega)) (fun f hf => by rw [up2_ni (by omega)]; exact hA.2.1 c hc f hf) (hW.2.1 c hc)) (fun r47 M47 z => ?_)
      obtain ⟨rfl, rfl⟩ := z
      show zV G (eX2_gather (g_rmv 3)) (0, 0) 50 [(0, .ref 44), (1, .ref 1), (2, .int (nI s)), (3, .int (nI c))] [.int (nI (k_now (σ.2.1 c))), .ref (46 + 0), .ref (46 + 0), .ref 44] (mm (up2 I 44 3 (nI 16)) J1 t) _
      refine zV_callV (E' := eX2_spread (g_rmv 0)) (av := [.ref (46 + 0), .ref (46 + 0), .int (nI (k_now (σ.2.1 c)))]) (st := []) (b := 44) dX2_gather_50 rfl (k_RX2_66 _) rfl ⟨by decide, by decide⟩ ⟨by decide, by decide⟩ (Or.inl rfl) rfl (Nat.le_of_ble_eq_true rfl) rfl rfl rfl (c_spread (a := 46 + 0) (b := 46 + 0) (n := k_now (σ.2.1 c)) (W := 16) rfl rfl (by omega) (by decide) (up2_same _ _ _ _)) (fun r50 M50 z => ?_)
      obtain ⟨J50, rfl, rfl, hX50, hF50⟩ := z
      show zV G (eX2_gather (g_rmv 3)) (0, 0) 53 [(0, .ref 44), (1, .ref 1), (2, .int (nI s)), (3, .int (nI c))] [] (mm (up2 I 44 3 (nI 16)) J50 t) _
      refine zV_iinc (y := (nI (c + 1))) (lv' := [(0, .ref 44), (1, .ref 1), (2, .int (nI s)), (3, .int (nI (c + 1)))]) dX2_gather_53 rfl 3 rfl (nI_1 _) (by decide) rfl ?_
      refine zV_goto (tgt := 12) dX2_gather_56 rfl ?_
      exact ih J50 ⟨fun k hk => by rw [rch_t h25, spW_jb (W := 16) (r := 46) hX50 (by omega)]; exact spr_cong (N := 1024) h1.1 hk, fun i hi => (hF50 i hi).trans (h1.2 i hi)⟩

set_option maxRecDepth 100000 in
theorem c_isReached {G : mG} {I : Nat → Nat → Int32} {J : Nat → Nat → Int64} {t : Nat} {v : Nat} {P : Nat → Bool} (hv : v < 2 ^ 31) (hP : ∀ k, k < 1024 → jb J 46 k = P k) : zC G yX2_isReached (eX2_isReached (g_rmv 1)) [.ref 44, .int (nI v)] (mm I J t) (fun r M => r = some (.int (b2 (v ≤ 1000 ∧ P v = true))) ∧ M = mm I J t) := by
  refine zC_of (by decide +kernel) rfl (by decide) (Nat.le_of_ble_eq_true rfl) ?_
  show zV G (eX2_isReached (g_rmv 1)) (0, 0) 0 [(0, .ref 44), (1, .int (nI v))] [] (mm I J t) _
  refine zV_iload_n dX2_isReached_0 rfl 1 rfl rfl ?_
  refine zV_sipush (v := (nI 1000)) dX2_isReached_1 rfl rfl ?_
  refine zV_callSN (E' := eX6_isWithin (g_rmv 0)) (av := [.int (nI v), .int (nI 1000)]) (st := []) dX2_isReached_4 rfl (k_RX2_70 _) rfl ⟨by decide, by decide⟩ ⟨by decide, by decide⟩ (Or.inl rfl) rfl (Nat.le_of_ble_eq_true rfl) (c_isWithin (x := (nI v)) (y := (nI 1000))) (fun r4 M4 z => ?_)
  obtain ⟨rfl, rfl⟩ := z
  show zV G (eX2_isReached (g_rmv 1)) (0, 0) 7 [(0, .ref 44), (1, .int (nI v))] [.int (b2 (0 ≤ (nI v) ∧ (nI v) ≤ (nI 1000)))] (mm I J t) _
  refine zB_if_eq (tgt := 37) dX2_isReached_7 rfl rfl  (fun h7 => ?_) (fun h7 => ?_)
  · have hv2 : ¬ v ≤ 1000 := fun z => h7 ⟨nI_pos' (by omega), nI_le z (by decide)⟩
    refine zV_iconst (v := (nI 0)) dX2_isReached_37 rfl rfl ?_
    exact zV_ireturn dX2_isReached_38 rfl rfl (⟨z_b0 (fun z => hv2 z.1), rfl⟩)
  · have hv2 : v ≤ 1000 := (nI_leI (by omega) (by decide)).mp h7.2
    refine zV_aload_n dX2_isReached_10 rfl 0 rfl rfl ?_
    refine zV_getr (q' := 45) 0 dX2_isReached_11 rfl fl_RX2_13 rfl (by decide) rfl rfl ?_
    refine zV_iconst (v := (nI 0)) dX2_isReached_14 rfl rfl ?_
    refine zV_aaloadA (q' := (46 + 0)) 0 dX2_isReached_15 rfl rfl rfl (by decide) (by decide) (R_row (by decide)) ?_
    refine zV_iload_n dX2_isReached_16 rfl 1 rfl rfl ?_
    refine zV_bipush (v := (nI 6)) dX2_isReached_17 rfl rfl ?_
    refine zA_ishr (z := (nI (v / 64))) dX2_isReached_19 rfl  (pk_shrN (by omega) (nI 6 &&& 31) 6 (s_l 6 (by omega))) ?_
    refine zV_laload (v / 64) dX2_isReached_20 rfl (sh_row (by decide)) rfl (by omega) (by decide) ?_
    refine zV_iload_n dX2_isReached_21 rfl 1 rfl rfl ?_
    refine zV_bipush (v := (nI 63)) dX2_isReached_22 rfl rfl ?_
    refine zA_iand (z := (nI (v % 64))) dX2_isReached_24 rfl  (fa_mask v 6) ?_
    refine zA_lshr (z := ((J (46 + 0) (v / 64)) >>> (((nI (v % 64)) : Int32).toInt64 &&& 63))) dX2_isReached_25 rfl  (rfl) ?_
    refine zV_lconst (v := 1) dX2_isReached_26 rfl rfl ?_
    refine zA_land (z := (((J (46 + 0) (v / 64)) >>> (((nI (v % 64)) : Int32).toInt64 &&& 63)) &&& 1)) dX2_isReached_27 rfl  (rfl) ?_
    refine zV_lconst (v := 0) dX2_isReached_28 rfl rfl ?_
    refine zA_lcmp (z := (lg_cmp (((J (46 + 0) (v / 64)) >>> (((nI (v % 64)) : Int32).toInt64 &&& 63)) &&& 1) 0)) dX2_isReached_29 rfl  (rfl) ?_
    refine zV_if_eq (tgt := 37) dX2_isReached_30 rfl rfl  (fun h30 => ?_) (fun h30 => ?_)
    · skip
      refine zV_iconst (v := (nI 0)) dX2_isReached_37 rfl rfl ?_
      exact zV_ireturn dX2_isReached_38 rfl rfl (⟨z_b0 (fun z => by have e := (z_bit64 _ (by omega)).mp (lgc_0.mp h30); rw [← hP v (by omega)] at z; unfold jb at z; rw [e] at z; exact absurd z.2 (by decide)), rfl⟩)
    · skip
      refine zV_iconst (v := (nI 1)) dX2_isReached_33 rfl rfl ?_
      refine zV_goto (tgt := 38) dX2_isReached_34 rfl ?_
      exact zV_ireturn dX2_isReached_38 rfl rfl (⟨z_b1 ⟨hv2, by rw [← hP v (by omega)]; unfold jb; cases e : (J 46 (v / 64)).toBitVec.getLsbD (v % 64) with | true => rfl | false => exact absurd (lgc_0.mpr ((z_bit64 _ (by omega)).mpr e)) h30⟩, rfl⟩)

set_option maxRecDepth 100000 in
theorem c_firstUn {G : mG} {I : Nat → Nat → Int32} {J : Nat → Nat → Int64} {t : Nat} {a : Nat} {P : Nat → Bool} (ha : a ≤ 1001) (hP : ∀ k, k < 1024 → jb J 46 k = P k) : zC G yX2_firstUnreached (eX2_firstUnreached (g_rmv 2)) [.ref 44, .int (nI a)] (mm I J t) (fun r M => r = some (.int (nI (a + fa_first (fun i => !P (a + i)) (1001 - a)))) ∧ M = mm I J t) := by
  refine zC_of (by decide +kernel) rfl (by decide) (Nat.le_of_ble_eq_true rfl) ?_
  show zV G (eX2_firstUnreached (g_rmv 2)) (0, 0) 0 [(0, .ref 44), (1, .int (nI a))] [] (mm I J t) _
  refine zV_iload_n dX2_firstUnreached_0 rfl 1 rfl rfl ?_
  refine zV_istore_n (lv' := [(0, .ref 44), (1, .int (nI a)), (2, .int (nI a))]) dX2_firstUnreached_1 rfl rfl (by decide) rfl ?_
  refine z_for (fun i => (∀ j, j < i → P (a + j) = true) → zV G (eX2_firstUnreached (g_rmv 2)) (0, 0) 2 [(0, .ref 44), (1, .int (nI a)), (2, .int (nI (a + i)))] [] (mm I J t) _) (1001 - a) ?_ ?_ 0 (Nat.zero_le _) (fun j h => absurd h (Nat.not_lt_zero _))
  · intro hno
    refine zV_iload_n dX2_firstUnreached_2 rfl 2 rfl rfl ?_
    refine zV_sipush (v := (nI 1000)) dX2_firstUnreached_3 rfl rfl ?_
    refine zN_icmp_gt (tgt := 23) dX2_firstUnreached_6 rfl rfl (by omega) (by omega) (fun _ => ?_) (fun z => absurd z (by omega))
    refine zV_iload_n dX2_firstUnreached_23 rfl 2 rfl rfl ?_
    exact zV_ireturn dX2_firstUnreached_24 rfl rfl (⟨by rw [fst_end (fun j hj => by rw [hno j hj]; rfl)], rfl⟩)
  · intro i hi ih hno
    refine zV_iload_n dX2_firstUnreached_2 rfl 2 rfl rfl ?_
    refine zV_sipush (v := (nI 1000)) dX2_firstUnreached_3 rfl rfl ?_
    refine zN_icmp_gt (tgt := 23) dX2_firstUnreached_6 rfl rfl (by omega) (by omega) (fun z => absurd z (by omega)) (fun _ => ?_)
    refine zV_aload_n dX2_firstUnreached_9 rfl 0 rfl rfl ?_
    refine zV_iload_n dX2_firstUnreached_10 rfl 2 rfl rfl ?_
    refine zV_callV (E' := eX2_isReached (g_rmv 1)) (av := [.int (nI (a + i))]) (st := []) (b := 44) dX2_firstUnreached_11 rfl (k_RX2_79 _) rfl ⟨by decide, by decide⟩ ⟨by decide, by decide⟩ (Or.inl rfl) rfl (Nat.le_of_ble_eq_true rfl) rfl rfl rfl (c_isReached (v := (a + i)) (P := P) (by omega) hP) (fun r11 M11 z => ?_)
    obtain ⟨rfl, rfl⟩ := z
    show zV G (eX2_firstUnreached (g_rmv 2)) (0, 0) 14 [(0, .ref 44), (1, .int (nI a)), (2, .int (nI (a + i)))] [.int (b2 ((a + i) ≤ 1000 ∧ P (a + i) = true))] (mm I J t) _
    refine zB_if_eq (tgt := 23) dX2_firstUnreached_14 rfl rfl  (fun h14 => ?_) (fun h14 => ?_)
    · refine zV_iload_n dX2_firstUnreached_23 rfl 2 rfl rfl ?_
      exact zV_ireturn dX2_firstUnreached_24 rfl rfl (⟨by rw [fst_is hi (fun j hj => by rw [hno j hj]; rfl) (by cases e : P (a + i) with | false => rfl | true => exact absurd ⟨by omega, e⟩ h14)], rfl⟩)
    · refine zV_iinc (y := (nI (a + (i + 1)))) (lv' := [(0, .ref 44), (1, .int (nI a)), (2, .int (nI (a + (i + 1))))]) dX2_firstUnreached_17 rfl 2 rfl (nI_1 _) (by decide) rfl ?_
      refine zV_goto (tgt := 2) dX2_firstUnreached_20 rfl ?_
      exact ih (fun j hj => by (by_cases e : j = i); (· subst e; exact h14.2); (· exact hno j (by omega)))
