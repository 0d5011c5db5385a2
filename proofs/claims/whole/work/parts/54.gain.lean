/-! changes: gainOf of the class -/
theorem gn_0 {B : Nat} {σ : aL} (h : wfL B σ) {p q t : Nat} (hc : 0 < cs σ p q t ∨ 0 < os σ p q t) : gnN σ p q t = 0 := by
  refine if_pos ?_
  rw [Int32.lt_iff_toInt_lt, Int32.lt_iff_toInt_lt, cs_int h, os_int h, show (0 : Int32).toInt = 0 from rfl] at hc
  omega
theorem gn_v {B : Nat} {σ : aL} (h : wfL B σ) {p q t : Nat} (h1 : ¬ 0 < cs σ p q t) (h2 : ¬ 0 < os σ p q t) : -cs σ p q t - os σ p q t = nI (gnN σ p q t) := by
  rw [Int32.lt_iff_toInt_lt, cs_int h, show (0 : Int32).toInt = 0 from rfl] at h1
  rw [Int32.lt_iff_toInt_lt, os_int h, show (0 : Int32).toInt = 0 from rfl] at h2
  have e : gnN σ p q t = (ld_sumP σ (gv σ q t) p - ld_sum σ (gv σ p t)) + (ld_sumP σ (gv σ p t) q - ld_sum σ (gv σ q t)) := if_neg (by omega)
  rw [e, ← nI_add, ← pk_sub (show ld_sum σ (gv σ p t) ≤ ld_sumP σ (gv σ q t) p by omega), ← pk_sub (show ld_sum σ (gv σ q t) ≤ ld_sumP σ (gv σ p t) q by omega)]
  unfold cs os
  rw [Int32.neg_sub, Int32.sub_eq_add_neg _ (nI (ld_sum σ (gv σ q t)) - _), Int32.neg_sub]
set_option maxRecDepth 100000 in
theorem c_gainOf {G : mG} {I : Nat → Nat → Int32} {J : Nat → Nat → Int64} {t : Nat} {B : Nat} {σ : aL} (hW : wfL B σ) {p q x : Nat} (hpq : p ≠ q) (hx : isSub (ld_u σ p q) x = true) (hX : ∀ c, (ld_u σ p q).testBit c = true → I 65 c = wL σ p c ∧ I 66 c = wO σ p q c) : zC G yX5_gainOf (eX5_gainOf (g_rmv 2)) [.ref 61, .int (nI x)] (mm I J t) (fun r M => r = some (.int (nI (gnN σ p q x))) ∧ M = mm I J t) := by
  refine zC_of (by decide +kernel) rfl (by decide) (Nat.le_of_ble_eq_true rfl) ?_
  have n10 := hW.1
  have hul := ld_u_lt n10 p q
  have hxl := isSub_le hx
  show zV G (eX5_gainOf (g_rmv 2)) (0, 0) 0 [(0, .ref 61), (1, .int (nI x))] [] (mm I J t) _
  refine zV_aload_n dX5_gainOf_0 rfl 0 rfl rfl ?_
  refine zV_getr (q' := 65) 4 dX5_gainOf_1 rfl fl_RX5_25 rfl (by decide) rfl rfl ?_
  refine zV_iload_n dX5_gainOf_4 rfl 1 rfl rfl ?_
  refine zV_callS (E' := eX5_totalOf (g_rmv 1)) (av := [.ref 65, .int (nI x)]) (st := []) dX5_gainOf_5 rfl (k_RX5_86 _) rfl ⟨by decide, by decide⟩ ⟨by decide, by decide⟩ (Or.inl rfl) rfl (Nat.le_of_ble_eq_true rfl) (c_totalOf (q := 65) (s := x) (e := wL σ p) rfl (by omega) (fun c _ hb2 => (hX c (isSub_iff.mp hx c hb2)).1)) (fun r5 M5 z => ?_)
  obtain ⟨rfl, rfl⟩ := z
  rw [tsm_cs hW hpq hx]
  show zV G (eX5_gainOf (g_rmv 2)) (0, 0) 8 [(0, .ref 61), (1, .int (nI x))] [.int (cs σ p q x)] (mm I J t) _
  refine zV_istore_n (lv' := [(0, .ref 61), (1, .int (nI x)), (2, .int (cs σ p q x))]) dX5_gainOf_8 rfl rfl (by decide) rfl ?_
  refine zV_aload_n dX5_gainOf_9 rfl 0 rfl rfl ?_
  refine zV_getr (q' := 66) 5 dX5_gainOf_10 rfl fl_RX5_28 rfl (by decide) rfl rfl ?_
  refine zV_iload_n dX5_gainOf_13 rfl 1 rfl rfl ?_
  refine zV_callS (E' := eX5_totalOf (g_rmv 1)) (av := [.ref 66, .int (nI x)]) (st := []) dX5_gainOf_14 rfl (k_RX5_86 _) rfl ⟨by decide, by decide⟩ ⟨by decide, by decide⟩ (Or.inl rfl) rfl (Nat.le_of_ble_eq_true rfl) (c_totalOf (q := 66) (s := x) (e := wO σ p q) rfl (by omega) (fun c _ hb2 => (hX c (isSub_iff.mp hx c hb2)).2)) (fun r14 M14 z => ?_)
  obtain ⟨rfl, rfl⟩ := z
  rw [tsm_os hW hpq hx]
  show zV G (eX5_gainOf (g_rmv 2)) (0, 0) 17 [(0, .ref 61), (1, .int (nI x)), (2, .int (cs σ p q x))] [.int (os σ p q x)] (mm I J t) _
  refine zV_istore_n (lv' := [(0, .ref 61), (1, .int (nI x)), (2, .int (cs σ p q x)), (3, .int (os σ p q x))]) dX5_gainOf_17 rfl rfl (by decide) rfl ?_
  refine zV_iload_n dX5_gainOf_18 rfl 2 rfl rfl ?_
  refine zV_if_gt (tgt := 26) dX5_gainOf_19 rfl rfl  (fun h19 => ?_) (fun h19 => ?_)
  · refine zV_iconst (v := (nI 0)) dX5_gainOf_26 rfl rfl ?_
    refine zV_goto (tgt := 34) dX5_gainOf_27 rfl ?_
    exact zV_ireturn dX5_gainOf_34 rfl rfl (⟨by rw [gn_0 hW (Or.inl h19)], rfl⟩)
  · refine zV_iload_n dX5_gainOf_22 rfl 3 rfl rfl ?_
    refine zV_if_le (tgt := 30) dX5_gainOf_23 rfl rfl  (fun h23 => ?_) (fun h23 => ?_)
    · skip
      refine zV_iload_n dX5_gainOf_30 rfl 2 rfl rfl ?_
      refine zA_ineg (z := (-(cs σ p q x))) dX5_gainOf_31 rfl (rfl) ?_
      refine zV_iload_n dX5_gainOf_32 rfl 3 rfl rfl ?_
      refine zA_isub (z := (nI (gnN σ p q x))) dX5_gainOf_33 rfl  (gn_v hW h19 (Int32.not_lt.mpr h23)) ?_
      exact zV_ireturn dX5_gainOf_34 rfl rfl (⟨rfl, rfl⟩)
    · skip
      refine zV_iconst (v := (nI 0)) dX5_gainOf_26 rfl rfl ?_
      refine zV_goto (tgt := 34) dX5_gainOf_27 rfl ?_
      exact zV_ireturn dX5_gainOf_34 rfl rfl (⟨by rw [gn_0 hW (Or.inr (Int32.not_le.mp h23))], rfl⟩)
