/-! TEXTS: readCoin, readItem of the reference -/
theorem zV_ldcwS {G : mG} {E : mE} {cn : Nat × Nat} {pc pc' : Nat} {lv : List (Nat × Value)} {st : List Value} {M : mM} {Q : Option Value → mM → Prop} {index i : Nat} {tx : String} (hd : decode E.2.1 pc = .ok (.ldc_w index, 3)) (hp : pc + 3 = pc') (hw : (E.1, index, tx, i) ∈ g_lits) (k : zV G E cn pc' lv (.ref (1000 + i) :: st) M Q) : zV G E cn pc lv st M Q := by
  subst hp
  intro p l e s m args below meth c H locs Z ls C hH hS hl h1 h2 hR
  have e9 : g_ad G (1000 + i) = G.2.1 i := by rw [g_ad, if_neg (by omega), Nat.add_sub_cancel_left]
  have kk := k p l e s m args below meth c H locs Z ls C hH hS hl h1 h2 hR
  rw [List.map_cons, show g_tv G (.ref (1000 + i)) = .ref (g_ad G (1000 + i)) from rfl, e9] at kk
  have hZ := C.2.2.2.2.2.2.2.2.1.2.1 _ hw
  intro T hT X
  obtain ⟨t, a1, b1⟩ := kk T hT X
  exact ⟨t, X.ldcStringW C.1 C.2.2.2.1 (text := tx) (a := G.2.1 i) hZ.1 hZ.2 (g := F0 m pc ls (st.map (g_tv G))) rfl (by rw [C.2.1]; exact hd) t a1, b1⟩
theorem nc_iff {n v : Nat} (hn : n ≤ 10) (hv : v ≤ 1000) : nI v ≤ nI n - nI 1 ↔ v < n := by
  have e : (nI n - nI 1).toInt = (n : Int) - 1 := pk_sub_toInt (by omega) (by decide)
  rw [Int32.le_iff_toInt_le, e, nI_toInt (by omega)]
  omega
theorem stk_purse (σ : aL) (kd kg sp p l c : Nat) : (ld_strike σ kd kg sp p l).2.1 c 1 = if c = σ.1 then p else σ.2.1 c 1 := by
  show (if c = σ.1 then _ else σ.2.1 c) 1 = _
  by_cases e : c = σ.1
  · rw [if_pos e, if_pos e]; rfl
  · rw [if_neg e, if_neg e]
set_option maxRecDepth 100000 in
theorem m_readCoin {G : mG} {I : Nat → Nat → Int32} {J : Nat → Nat → Int64} {t : Nat} {tp : Nat → Nat} {L n B : Nat} {k : aT} {τ : aL} (hr : rdM I tp L) (hk : tkM I k) (ho : okT L k) (hw0 : I 76 15 = nI 0) (h18 : I 76 18 = nI n) (hn : n < 100) (h19 : I 76 19 = nI τ.1) (h85 : ∀ c, c < τ.1 → I 85 c = nI (τ.2.1 c 1)) (hW : wfL B τ) {kd : Nat} (h7 : kd < 7) : zC G yX7_readCoin (eX7_readCoin (g_rmv 6)) [.ref 76, .int (nI kd)] (mm I J t) (fun r M => ∃ I', r = none ∧ M = mm I' J t ∧ rdn I I' n τ (rCoin tp L kd k τ)) := by
  refine zC_of (by decide +kernel) rfl (by decide) (Nat.le_of_ble_eq_true rfl) ?_
  have n10 := hW.1
  have vb0 := ho.2.2.2
  have sb0 := ho.1
  have hL := hr.2.1
  show zV G (eX7_readCoin (g_rmv 6)) (0, 0) 0 [(0, .ref 76), (1, .int (nI kd))] [] (mm I J t) _
  refine zV_aload_n dX7_readCoin_0 rfl 0 rfl rfl ?_
  refine zV_aload_n dX7_readCoin_1 rfl 0 rfl rfl ?_
  refine zV_getI (x := (nI τ.1)) 19 dX7_readCoin_2 rfl fl_RX7_278 rfl (by decide) rfl (((fr7.rf (I := I)).2 19 (by omega)).trans h19) ?_
  refine zV_bipush (v := (nI 10)) dX7_readCoin_5 rfl rfl ?_
  refine zN_icmp_ge (tgt := 14) dX7_readCoin_7 rfl rfl (by omega) (by omega) (fun h7 => ?_) (fun h7 => ?_)
  · skip
    refine zV_iconst (v := (nI 0)) dX7_readCoin_14 rfl rfl ?_
    refine zV_callV (E' := eX7_must (g_rmv 2)) (av := [.int (nI 0)]) (st := []) (b := 76) dX7_readCoin_15 rfl (k_RX7_259 _) rfl ⟨by decide, by decide⟩ ⟨by decide, by decide⟩ (Or.inl rfl) rfl (Nat.le_of_ble_eq_true rfl) rfl rfl rfl (m_must0 hw0) (fun r15 M15 z => ?_)
    obtain ⟨rfl, rfl⟩ := z
    have hk15 : tkM (up2 I 76 15 (nI 1)) k := hk.mv (fun j h1 h2 => up2_nk (by omega))
    have hf15 : fr7 I (up2 I 76 15 (nI 1)) := (fr7.rf (I := I)).up (by decide)
    have hw15 : (up2 I 76 15 (nI 1)) 76 15 = nI 1 := up2_same _ _ _ _
    show zV G (eX7_readCoin (g_rmv 6)) (0, 0) 18 [(0, .ref 76), (1, .int (nI kd))] [] (mm (up2 I 76 15 (nI 1)) J t) _
    refine zV_aload_n dX7_readCoin_18 rfl 0 rfl rfl ?_
    refine zV_iconst (v := (nI 0)) dX7_readCoin_19 rfl rfl ?_
    refine zV_bipush (v := (nI 99)) dX7_readCoin_20 rfl rfl ?_
    refine zV_callV (E' := eX7_number (g_rmv 3)) (av := [.int (nI 0), .int (nI 99)]) (st := []) (b := 76) dX7_readCoin_22 rfl (k_RX7_281 _) rfl ⟨by decide, by decide⟩ ⟨by decide, by decide⟩ (Or.inl rfl) rfl (Nat.le_of_ble_eq_true rfl) rfl rfl rfl (m_numW (x := (nI 99)) (hf15.use hr) hk15 ho hw15) (fun r22 M22 z => ?_)
    obtain ⟨rfl, rfl⟩ := z
    have hk22 : tkM (up2 (up2 I 76 15 (nI 1)) 76 15 (nI 1)) k := hk15.mv (fun j h1 h2 => up2_nk (by omega))
    have hf22 : fr7 I (up2 (up2 I 76 15 (nI 1)) 76 15 (nI 1)) := hf15.up (by decide)
    have hw22 : (up2 (up2 I 76 15 (nI 1)) 76 15 (nI 1)) 76 15 = nI 1 := up2_same _ _ _ _
    show zV G (eX7_readCoin (g_rmv 6)) (0, 0) 25 [(0, .ref 76), (1, .int (nI kd))] [.int (nI k.2.2.2)] (mm (up2 (up2 I 76 15 (nI 1)) 76 15 (nI 1)) J t) _
    refine zV_istore_n (lv' := [(0, .ref 76), (1, .int (nI kd)), (2, .int (nI k.2.2.2))]) dX7_readCoin_25 rfl rfl (by decide) rfl ?_
    refine zV_aload_n dX7_readCoin_26 rfl 0 rfl rfl ?_
    refine zV_iconst (v := (nI 0)) dX7_readCoin_27 rfl rfl ?_
    refine zV_bipush (v := (nI 99)) dX7_readCoin_28 rfl rfl ?_
    refine zV_callV (E' := eX7_number (g_rmv 3)) (av := [.int (nI 0), .int (nI 99)]) (st := []) (b := 76) dX7_readCoin_30 rfl (k_RX7_281 _) rfl ⟨by decide, by decide⟩ ⟨by decide, by decide⟩ (Or.inl rfl) rfl (Nat.le_of_ble_eq_true rfl) rfl rfl rfl (m_numW (x := (nI 99)) (hf22.use hr) hk22 ho hw22) (fun r30 M30 z => ?_)
    obtain ⟨rfl, rfl⟩ := z
    have hk30 : tkM (up2 (up2 (up2 I 76 15 (nI 1)) 76 15 (nI 1)) 76 15 (nI 1)) k := hk22.mv (fun j h1 h2 => up2_nk (by omega))
    have hf30 : fr7 I (up2 (up2 (up2 I 76 15 (nI 1)) 76 15 (nI 1)) 76 15 (nI 1)) := hf22.up (by decide)
    have hw30 : (up2 (up2 (up2 I 76 15 (nI 1)) 76 15 (nI 1)) 76 15 (nI 1)) 76 15 = nI 1 := up2_same _ _ _ _
    show zV G (eX7_readCoin (g_rmv 6)) (0, 0) 33 [(0, .ref 76), (1, .int (nI kd)), (2, .int (nI k.2.2.2))] [.int (nI k.2.2.2)] (mm (up2 (up2 (up2 I 76 15 (nI 1)) 76 15 (nI 1)) 76 15 (nI 1)) J t) _
    refine zV_istore_n (lv' := [(0, .ref 76), (1, .int (nI kd)), (2, .int (nI k.2.2.2)), (3, .int (nI k.2.2.2))]) dX7_readCoin_33 rfl rfl (by decide) rfl ?_
    refine zV_iconst (v := (nI 0)) dX7_readCoin_34 rfl rfl ?_
    refine zV_istore (lv' := [(0, .ref 76), (1, .int (nI kd)), (2, .int (nI k.2.2.2)), (3, .int (nI k.2.2.2)), (4, .int (nI 0))]) dX7_readCoin_35 rfl (by decide) rfl ?_
    refine zV_aload_n dX7_readCoin_37 rfl 0 rfl rfl ?_
    refine zV_getI (x := (nI 1)) 15 dX7_readCoin_38 rfl fl_RX7_252 rfl (by decide) rfl hw30 ?_
    refine zN_if_ne (tgt := 67) dX7_readCoin_41 rfl rfl (by decide) (fun _ => ?_) (fun z => absurd z (by decide))
    refine zV_iconst (v := (nI 0)) dX7_readCoin_67 rfl rfl ?_
    refine zV_istore (lv' := [(0, .ref 76), (1, .int (nI kd)), (2, .int (nI k.2.2.2)), (3, .int (nI k.2.2.2)), (4, .int (nI 0)), (5, .int (nI 0))]) dX7_readCoin_68 rfl (by decide) rfl ?_
    refine zV_aload_n dX7_readCoin_70 rfl 0 rfl rfl ?_
    refine zV_getI (x := (nI 1)) 15 dX7_readCoin_71 rfl fl_RX7_252 rfl (by decide) rfl hw30 ?_
    refine zN_if_ne (tgt := 95) dX7_readCoin_74 rfl rfl (by decide) (fun _ => ?_) (fun z => absurd z (by decide))
    refine zV_aload_n dX7_readCoin_95 rfl 0 rfl rfl ?_
    refine zV_getI (x := (nI 1)) 15 dX7_readCoin_96 rfl fl_RX7_252 rfl (by decide) rfl hw30 ?_
    refine zN_if_ne (tgt := 123) dX7_readCoin_99 rfl rfl (by decide) (fun _ => ?_) (fun z => absurd z (by decide))
    refine zV_aload_n dX7_readCoin_123 rfl 0 rfl rfl ?_
    refine zV_iload_n dX7_readCoin_124 rfl 1 rfl rfl ?_
    refine zV_iload_n dX7_readCoin_125 rfl 2 rfl rfl ?_
    refine zV_iload_n dX7_readCoin_126 rfl 3 rfl rfl ?_
    refine zV_iload dX7_readCoin_127 rfl 4 rfl ?_
    refine zV_iload dX7_readCoin_129 rfl 5 rfl ?_
    refine zV_callV (E' := eX7_item (g_rmv 0)) (av := [.int (nI kd), .int (nI k.2.2.2), .int (nI k.2.2.2), .int (nI 0), .int (nI 0)]) (st := []) (b := 76) dX7_readCoin_131 rfl (k_RX7_286 _) rfl ⟨by decide, by decide⟩ ⟨by decide, by decide⟩ (Or.inl rfl) rfl (Nat.le_of_ble_eq_true rfl) rfl rfl rfl (m_item (n := n) (w := kd) (a := k.2.2.2) (b := k.2.2.2) (c := 0) (d := 0) ((hf30.2 18 (by omega)).trans h18) hn) (fun r131 M131 z => ?_)
    obtain ⟨Iz, rfl, rfl, hz⟩ := z
    show zV G (eX7_readCoin (g_rmv 6)) (0, 0) 134 [(0, .ref 76), (1, .int (nI kd)), (2, .int (nI k.2.2.2)), (3, .int (nI k.2.2.2)), (4, .int (nI 0)), (5, .int (nI 0))] [] (mm Iz J t) _
    exact zV_return dX7_readCoin_134 rfl (⟨Iz, rfl, rfl, rdn_bad hf30 hk30 hw30 (fun _ _ => rfl) hz (show rCoin tp L kd k τ = (false, k, τ) from if_neg (show ¬ τ.1 < 10 by omega))⟩)
  · skip
    refine zV_iconst (v := (nI 1)) dX7_readCoin_10 rfl rfl ?_
    refine zV_goto (tgt := 15) dX7_readCoin_11 rfl ?_
    refine zV_callV (E' := eX7_must (g_rmv 2)) (av := [.int (nI 1)]) (st := []) (b := 76) dX7_readCoin_15 rfl (k_RX7_259 _) rfl ⟨by decide, by decide⟩ ⟨by decide, by decide⟩ (Or.inl rfl) rfl (Nat.le_of_ble_eq_true rfl) rfl rfl rfl (m_must1 ((fr7.rf (I := I)).use hr) hk ho hw0) (fun r15 M15 z => ?_)
    obtain ⟨I15, rfl, rfl, hT15, hF15, hw15⟩ := z
    have hk15 : tkM I15 (nx tp L k) := hT15
    have ok15 : okT L (nx tp L k) := nx_ok ho.2.2.1
    have hf15 := (fr7.rf (I := I)).tr hF15
    have vb15 := ok15.2.2.2
    have sb15 := ok15.1
    show zV G (eX7_readCoin (g_rmv 6)) (0, 0) 18 [(0, .ref 76), (1, .int (nI kd))] [] (mm I15 J t) _
    by_cases hN22 : num (nx tp L k) 99
    · skip
      refine zV_aload_n dX7_readCoin_18 rfl 0 rfl rfl ?_
      refine zV_iconst (v := (nI 0)) dX7_readCoin_19 rfl rfl ?_
      refine zV_bipush (v := (nI 99)) dX7_readCoin_20 rfl rfl ?_
      refine zV_callV (E' := eX7_number (g_rmv 3)) (av := [.int (nI 0), .int (nI 99)]) (st := []) (b := 76) dX7_readCoin_22 rfl (k_RX7_281 _) rfl ⟨by decide, by decide⟩ ⟨by decide, by decide⟩ (Or.inl rfl) rfl (Nat.le_of_ble_eq_true rfl) rfl rfl rfl (m_numY (x := (nI 99)) (hf15.use hr) hk15 ok15 hw15 ⟨hN22.1, nI_le hN22.2 (by decide)⟩) (fun r22 M22 z => ?_)
      obtain ⟨I22, rfl, rfl, hT22, hF22, hw22⟩ := z
      have hk22 : tkM I22 (nx tp L (nx tp L k)) := hT22
      have ok22 : okT L (nx tp L (nx tp L k)) := nx_ok ok15.2.2.1
      have hf22 := hf15.tr hF22
      have vb22 := ok22.2.2.2
      have sb22 := ok22.1
      show zV G (eX7_readCoin (g_rmv 6)) (0, 0) 25 [(0, .ref 76), (1, .int (nI kd))] [.int (nI ((nx tp L k).2.2.2))] (mm I22 J t) _
      refine zV_istore_n (lv' := [(0, .ref 76), (1, .int (nI kd)), (2, .int (nI ((nx tp L k).2.2.2)))]) dX7_readCoin_25 rfl rfl (by decide) rfl ?_
      by_cases hN30 : num (nx tp L (nx tp L k)) 99
      · skip
        refine zV_aload_n dX7_readCoin_26 rfl 0 rfl rfl ?_
        refine zV_iconst (v := (nI 0)) dX7_readCoin_27 rfl rfl ?_
        refine zV_bipush (v := (nI 99)) dX7_readCoin_28 rfl rfl ?_
        refine zV_callV (E' := eX7_number (g_rmv 3)) (av := [.int (nI 0), .int (nI 99)]) (st := []) (b := 76) dX7_readCoin_30 rfl (k_RX7_281 _) rfl ⟨by decide, by decide⟩ ⟨by decide, by decide⟩ (Or.inl rfl) rfl (Nat.le_of_ble_eq_true rfl) rfl rfl rfl (m_numY (x := (nI 99)) (hf22.use hr) hk22 ok22 hw22 ⟨hN30.1, nI_le hN30.2 (by decide)⟩) (fun r30 M30 z => ?_)
        obtain ⟨I30, rfl, rfl, hT30, hF30, hw30⟩ := z
        have hk30 : tkM I30 (nx tp L (nx tp L (nx tp L k))) := hT30
        have ok30 : okT L (nx tp L (nx tp L (nx tp L k))) := nx_ok ok22.2.2.1
        have hf30 := hf22.tr hF30
        have vb30 := ok30.2.2.2
        have sb30 := ok30.1
        show zV G (eX7_readCoin (g_rmv 6)) (0, 0) 33 [(0, .ref 76), (1, .int (nI kd)), (2, .int (nI ((nx tp L k).2.2.2)))] [.int (nI ((nx tp L (nx tp L k)).2.2.2))] (mm I30 J t) _
        refine zV_istore_n (lv' := [(0, .ref 76), (1, .int (nI kd)), (2, .int (nI ((nx tp L k).2.2.2))), (3, .int (nI ((nx tp L (nx tp L k)).2.2.2)))]) dX7_readCoin_33 rfl rfl (by decide) rfl ?_
        refine zV_iconst (v := (nI 0)) dX7_readCoin_34 rfl rfl ?_
        refine zV_istore (lv' := [(0, .ref 76), (1, .int (nI kd)), (2, .int (nI ((nx tp L k).2.2.2))), (3, .int (nI ((nx tp L (nx tp L k)).2.2.2))), (4, .int (nI 0))]) dX7_readCoin_35 rfl (by decide) rfl ?_
        refine zV_aload_n dX7_readCoin_37 rfl 0 rfl rfl ?_
        refine zV_getI (x := (nI 0)) 15 dX7_readCoin_38 rfl fl_RX7_252 rfl (by decide) rfl hw30 ?_
        refine zN_if_ne (tgt := 67) dX7_readCoin_41 rfl rfl (by decide) (fun z => absurd z (by decide)) (fun _ => ?_)
        refine zV_aload_n dX7_readCoin_44 rfl 0 rfl rfl ?_
        refine zV_ldcwS (i := 9) (tx := "in") dX7_readCoin_45 rfl (by decide) ?_
        refine zV_callV (E' := eX7_isWord (g_rmv 5)) (av := [.ref (1000 + 9)]) (st := []) (b := 76) dX7_readCoin_48 rfl (k_RX7_266 _) rfl ⟨by decide, by decide⟩ ⟨by decide, by decide⟩ (Or.inl rfl) rfl (Nat.le_of_ble_eq_true rfl) rfl rfl rfl (m_isWord (t := 9) (hf30.use hr) hk30 ok30 (by decide)) (fun r48 M48 z => ?_)
        obtain ⟨rfl, rfl⟩ := z
        show zV G (eX7_readCoin (g_rmv 6)) (0, 0) 51 [(0, .ref 76), (1, .int (nI kd)), (2, .int (nI ((nx tp L k).2.2.2))), (3, .int (nI ((nx tp L (nx tp L k)).2.2.2))), (4, .int (nI 0))] [.int (b2 (isW tp (nx tp L (nx tp L (nx tp L k))) 9))] (mm I30 J t) _
        refine zB_if_eq (tgt := 67) dX7_readCoin_51 rfl rfl  (fun h51 => ?_) (fun h51 => ?_)
        · skip
          refine zV_iconst (v := (nI 0)) dX7_readCoin_67 rfl rfl ?_
          refine zV_istore (lv' := [(0, .ref 76), (1, .int (nI kd)), (2, .int (nI ((nx tp L k).2.2.2))), (3, .int (nI ((nx tp L (nx tp L k)).2.2.2))), (4, .int (nI 0)), (5, .int (nI 0))]) dX7_readCoin_68 rfl (by decide) rfl ?_
          refine zV_aload_n dX7_readCoin_70 rfl 0 rfl rfl ?_
          refine zV_getI (x := (nI 0)) 15 dX7_readCoin_71 rfl fl_RX7_252 rfl (by decide) rfl hw30 ?_
          refine zN_if_ne (tgt := 95) dX7_readCoin_74 rfl rfl (by decide) (fun z => absurd z (by decide)) (fun _ => ?_)
          refine zV_aload_n dX7_readCoin_77 rfl 0 rfl rfl ?_
          refine zV_ldcwS (i := 10) (tx := "ship") dX7_readCoin_78 rfl (by decide) ?_
          refine zV_callV (E' := eX7_isWord (g_rmv 5)) (av := [.ref (1000 + 10)]) (st := []) (b := 76) dX7_readCoin_81 rfl (k_RX7_266 _) rfl ⟨by decide, by decide⟩ ⟨by decide, by decide⟩ (Or.inl rfl) rfl (Nat.le_of_ble_eq_true rfl) rfl rfl rfl (m_isWord (t := 10) (hf30.use hr) hk30 ok30 (by decide)) (fun r81 M81 z => ?_)
          obtain ⟨rfl, rfl⟩ := z
          show zV G (eX7_readCoin (g_rmv 6)) (0, 0) 84 [(0, .ref 76), (1, .int (nI kd)), (2, .int (nI ((nx tp L k).2.2.2))), (3, .int (nI ((nx tp L (nx tp L k)).2.2.2))), (4, .int (nI 0)), (5, .int (nI 0))] [.int (b2 (isW tp (nx tp L (nx tp L (nx tp L k))) 10))] (mm I30 J t) _
          refine zB_if_eq (tgt := 95) dX7_readCoin_84 rfl rfl  (fun h84 => ?_) (fun h84 => ?_)
          · skip
            refine zV_aload_n dX7_readCoin_95 rfl 0 rfl rfl ?_
            refine zV_getI (x := (nI 0)) 15 dX7_readCoin_96 rfl fl_RX7_252 rfl (by decide) rfl hw30 ?_
            refine zN_if_ne (tgt := 123) dX7_readCoin_99 rfl rfl (by decide) (fun z => absurd z (by decide)) (fun _ => ?_)
            refine zV_aload_n dX7_readCoin_102 rfl 0 rfl rfl ?_
            refine zV_getr (q' := 85) 20 dX7_readCoin_103 rfl fl_RX7_52 rfl (by decide) rfl rfl ?_
            refine zV_aload_n dX7_readCoin_106 rfl 0 rfl rfl ?_
            refine zV_getI (x := (nI τ.1)) 19 dX7_readCoin_107 rfl fl_RX7_278 rfl (by decide) rfl ((hf30.2 19 (by omega)).trans h19) ?_
            refine zV_iload dX7_readCoin_110 rfl 4 rfl ?_
            refine zV_iastore τ.1 dX7_readCoin_112 rfl rfl rfl (by omega) (by decide)  ?_
            refine zV_aload_n dX7_readCoin_113 rfl 0 rfl rfl ?_
            refine zV_dup dX7_readCoin_114 rfl rfl ?_
            refine zV_getI (x := (nI τ.1)) 19 dX7_readCoin_115 rfl fl_RX7_278 rfl (by decide) rfl (by rw [up2_ni (by decide)]; exact ((hf30.2 19 (by omega)).trans h19)) ?_
            refine zV_iconst (v := (nI 1)) dX7_readCoin_118 rfl rfl ?_
            refine zA_iadd (z := (nI (τ.1 + 1))) dX7_readCoin_119 rfl  (nI_add _ _) ?_
            refine zV_puti 19 dX7_readCoin_120 rfl fl_RX7_278 rfl (by decide) rfl rfl rfl ?_
            refine zV_aload_n dX7_readCoin_123 rfl 0 rfl rfl ?_
            refine zV_iload_n dX7_readCoin_124 rfl 1 rfl rfl ?_
            refine zV_iload_n dX7_readCoin_125 rfl 2 rfl rfl ?_
            refine zV_iload_n dX7_readCoin_126 rfl 3 rfl rfl ?_
            refine zV_iload dX7_readCoin_127 rfl 4 rfl ?_
            refine zV_iload dX7_readCoin_129 rfl 5 rfl ?_
            refine zV_callV (E' := eX7_item (g_rmv 0)) (av := [.int (nI kd), .int (nI ((nx tp L k).2.2.2)), .int (nI ((nx tp L (nx tp L k)).2.2.2)), .int (nI 0), .int (nI 0)]) (st := []) (b := 76) dX7_readCoin_131 rfl (k_RX7_286 _) rfl ⟨by decide, by decide⟩ ⟨by decide, by decide⟩ (Or.inl rfl) rfl (Nat.le_of_ble_eq_true rfl) rfl rfl rfl (m_item (n := n) (w := kd) (a := (nx tp L k).2.2.2) (b := (nx tp L (nx tp L k)).2.2.2) (c := 0) (d := 0) (by rw [up2_nk (by decide), up2_ni (by decide)]; exact (hf30.2 18 (by omega)).trans h18) hn) (fun r131 M131 z => ?_)
            obtain ⟨Iz, rfl, rfl, hz⟩ := z
            show zV G (eX7_readCoin (g_rmv 6)) (0, 0) 134 [(0, .ref 76), (1, .int (nI kd)), (2, .int (nI ((nx tp L k).2.2.2))), (3, .int (nI ((nx tp L (nx tp L k)).2.2.2))), (4, .int (nI 0)), (5, .int (nI 0))] [] (mm Iz J t) _
            exact zV_return dX7_readCoin_134 rfl (⟨Iz, rfl, rfl, rdn_good (I1 := I30) (τ' := (ld_strike τ kd (nx tp L k).2.2.2 (nx tp L (nx tp L k)).2.2.2 0 0)) hf30 hk30 hw30 (fun i h1 h2 => by funext z; rw [up2_ni h2, up2_ni h1]) (fun j hj => by rw [up2_nk hj, up2_ni (by decide)]) hz ((show rCoin tp L kd k τ = (true, (nx tp L (nx tp L (nx tp L k))), (ld_add τ kd (nx tp L k).2.2.2 (nx tp L (nx tp L k)).2.2.2)) from (if_pos (show τ.1 < 10 by omega)).trans ((if_pos hN22).trans ((if_pos hN30).trans ((if_neg h51).trans (if_neg h84))))).trans (by rw [stk_00])) (show ap1 (eF kd (nx tp L k).2.2.2 (nx tp L (nx tp L k)).2.2.2 0 0) τ = (ld_strike τ kd (nx tp L k).2.2.2 (nx tp L (nx tp L k)).2.2.2 0 0) from if_neg (show ¬ kd = 10 by omega)) (show okE (eF kd (nx tp L k).2.2.2 (nx tp L (nx tp L k)).2.2.2 0 0) τ from (by unfold okE; rw [if_neg (show ¬ (eF kd (nx tp L k).2.2.2 (nx tp L (nx tp L k)).2.2.2 0 0) 0 = 10 from (show ¬ kd = 10 by omega))]; exact ⟨show kd ≤ 10 by omega, by omega⟩)) (up2_same _ _ _ _) (fun c hc => by
                rw [stk_purse, up2_ni (by decide)]
                by_cases ec : c = τ.1
                · rw [if_pos ec, ec, up2_same]
                · rw [if_neg ec, up2_nk ec, hf30.1 85 (by decide)]; exact h85 c (by have h9 : c < τ.1 + 1 := hc; omega))⟩)
          · skip
            refine zV_aload_n dX7_readCoin_87 rfl 0 rfl rfl ?_
            refine zV_iconst (v := (nI 1)) dX7_readCoin_88 rfl rfl ?_
            refine zV_callV (E' := eX7_must (g_rmv 2)) (av := [.int (nI 1)]) (st := []) (b := 76) dX7_readCoin_89 rfl (k_RX7_259 _) rfl ⟨by decide, by decide⟩ ⟨by decide, by decide⟩ (Or.inl rfl) rfl (Nat.le_of_ble_eq_true rfl) rfl rfl rfl (m_must1 (hf30.use hr) hk30 ok30 hw30) (fun r89 M89 z => ?_)
            obtain ⟨I89, rfl, rfl, hT89, hF89, hw89⟩ := z
            have hk89 : tkM I89 (nx tp L (nx tp L (nx tp L (nx tp L k)))) := hT89
            have ok89 : okT L (nx tp L (nx tp L (nx tp L (nx tp L k)))) := nx_ok ok30.2.2.1
            have hf89 := hf30.tr hF89
            have vb89 := ok89.2.2.2
            have sb89 := ok89.1
            show zV G (eX7_readCoin (g_rmv 6)) (0, 0) 92 [(0, .ref 76), (1, .int (nI kd)), (2, .int (nI ((nx tp L k).2.2.2))), (3, .int (nI ((nx tp L (nx tp L k)).2.2.2))), (4, .int (nI 0)), (5, .int (nI 0))] [] (mm I89 J t) _
            refine zV_iconst (v := (nI 1)) dX7_readCoin_92 rfl rfl ?_
            refine zV_istore (lv' := [(0, .ref 76), (1, .int (nI kd)), (2, .int (nI ((nx tp L k).2.2.2))), (3, .int (nI ((nx tp L (nx tp L k)).2.2.2))), (4, .int (nI 0)), (5, .int (nI 1))]) dX7_readCoin_93 rfl (by decide) rfl ?_
            refine zV_aload_n dX7_readCoin_95 rfl 0 rfl rfl ?_
            refine zV_getI (x := (nI 0)) 15 dX7_readCoin_96 rfl fl_RX7_252 rfl (by decide) rfl hw89 ?_
            refine zN_if_ne (tgt := 123) dX7_readCoin_99 rfl rfl (by decide) (fun z => absurd z (by decide)) (fun _ => ?_)
            refine zV_aload_n dX7_readCoin_102 rfl 0 rfl rfl ?_
            refine zV_getr (q' := 85) 20 dX7_readCoin_103 rfl fl_RX7_52 rfl (by decide) rfl rfl ?_
            refine zV_aload_n dX7_readCoin_106 rfl 0 rfl rfl ?_
            refine zV_getI (x := (nI τ.1)) 19 dX7_readCoin_107 rfl fl_RX7_278 rfl (by decide) rfl ((hf89.2 19 (by omega)).trans h19) ?_
            refine zV_iload dX7_readCoin_110 rfl 4 rfl ?_
            refine zV_iastore τ.1 dX7_readCoin_112 rfl rfl rfl (by omega) (by decide)  ?_
            refine zV_aload_n dX7_readCoin_113 rfl 0 rfl rfl ?_
            refine zV_dup dX7_readCoin_114 rfl rfl ?_
            refine zV_getI (x := (nI τ.1)) 19 dX7_readCoin_115 rfl fl_RX7_278 rfl (by decide) rfl (by rw [up2_ni (by decide)]; exact ((hf89.2 19 (by omega)).trans h19)) ?_
            refine zV_iconst (v := (nI 1)) dX7_readCoin_118 rfl rfl ?_
            refine zA_iadd (z := (nI (τ.1 + 1))) dX7_readCoin_119 rfl  (nI_add _ _) ?_
            refine zV_puti 19 dX7_readCoin_120 rfl fl_RX7_278 rfl (by decide) rfl rfl rfl ?_
            refine zV_aload_n dX7_readCoin_123 rfl 0 rfl rfl ?_
            refine zV_iload_n dX7_readCoin_124 rfl 1 rfl rfl ?_
            refine zV_iload_n dX7_readCoin_125 rfl 2 rfl rfl ?_
            refine zV_iload_n dX7_readCoin_126 rfl 3 rfl rfl ?_
            refine zV_iload dX7_readCoin_127 rfl 4 rfl ?_
            refine zV_iload dX7_readCoin_129 rfl 5 rfl ?_
            refine zV_callV (E' := eX7_item (g_rmv 0)) (av := [.int (nI kd), .int (nI ((nx tp L k).2.2.2)), .int (nI ((nx tp L (nx tp L k)).2.2.2)), .int (nI 0), .int (nI 1)]) (st := []) (b := 76) dX7_readCoin_131 rfl (k_RX7_286 _) rfl ⟨by decide, by decide⟩ ⟨by decide, by decide⟩ (Or.inl rfl) rfl (Nat.le_of_ble_eq_true rfl) rfl rfl rfl (m_item (n := n) (w := kd) (a := (nx tp L k).2.2.2) (b := (nx tp L (nx tp L k)).2.2.2) (c := 0) (d := 1) (by rw [up2_nk (by decide), up2_ni (by decide)]; exact (hf89.2 18 (by omega)).trans h18) hn) (fun r131 M131 z => ?_)
            obtain ⟨Iz, rfl, rfl, hz⟩ := z
            show zV G (eX7_readCoin (g_rmv 6)) (0, 0) 134 [(0, .ref 76), (1, .int (nI kd)), (2, .int (nI ((nx tp L k).2.2.2))), (3, .int (nI ((nx tp L (nx tp L k)).2.2.2))), (4, .int (nI 0)), (5, .int (nI 1))] [] (mm Iz J t) _
            exact zV_return dX7_readCoin_134 rfl (⟨Iz, rfl, rfl, rdn_good (I1 := I89) (τ' := (ld_strike τ kd (nx tp L k).2.2.2 (nx tp L (nx tp L k)).2.2.2 0 1)) hf89 hk89 hw89 (fun i h1 h2 => by funext z; rw [up2_ni h2, up2_ni h1]) (fun j hj => by rw [up2_nk hj, up2_ni (by decide)]) hz ((show rCoin tp L kd k τ = (true, (nx tp L (nx tp L (nx tp L (nx tp L k)))), (ld_cset (ld_add τ kd (nx tp L k).2.2.2 (nx tp L (nx tp L k)).2.2.2) τ.1 (k_set ((ld_add τ kd (nx tp L k).2.2.2 (nx tp L (nx tp L k)).2.2.2).2.1 τ.1) 4 1))) from (if_pos (show τ.1 < 10 by omega)).trans ((if_pos hN22).trans ((if_pos hN30).trans ((if_neg h51).trans (if_pos h84))))).trans (by rw [stk_l, stk_00])) (show ap1 (eF kd (nx tp L k).2.2.2 (nx tp L (nx tp L k)).2.2.2 0 1) τ = (ld_strike τ kd (nx tp L k).2.2.2 (nx tp L (nx tp L k)).2.2.2 0 1) from if_neg (show ¬ kd = 10 by omega)) (show okE (eF kd (nx tp L k).2.2.2 (nx tp L (nx tp L k)).2.2.2 0 1) τ from (by unfold okE; rw [if_neg (show ¬ (eF kd (nx tp L k).2.2.2 (nx tp L (nx tp L k)).2.2.2 0 1) 0 = 10 from (show ¬ kd = 10 by omega))]; exact ⟨show kd ≤ 10 by omega, by omega⟩)) (up2_same _ _ _ _) (fun c hc => by
                rw [stk_purse, up2_ni (by decide)]
                by_cases ec : c = τ.1
                · rw [if_pos ec, ec, up2_same]
                · rw [if_neg ec, up2_nk ec, hf89.1 85 (by decide)]; exact h85 c (by have h9 : c < τ.1 + 1 := hc; omega))⟩)
        · skip
          refine zV_aload_n dX7_readCoin_54 rfl 0 rfl rfl ?_
          refine zV_iconst (v := (nI 1)) dX7_readCoin_55 rfl rfl ?_
          refine zV_callV (E' := eX7_must (g_rmv 2)) (av := [.int (nI 1)]) (st := []) (b := 76) dX7_readCoin_56 rfl (k_RX7_259 _) rfl ⟨by decide, by decide⟩ ⟨by decide, by decide⟩ (Or.inl rfl) rfl (Nat.le_of_ble_eq_true rfl) rfl rfl rfl (m_must1 (hf30.use hr) hk30 ok30 hw30) (fun r56 M56 z => ?_)
          obtain ⟨I56, rfl, rfl, hT56, hF56, hw56⟩ := z
          have hk56 : tkM I56 (nx tp L (nx tp L (nx tp L (nx tp L k)))) := hT56
          have ok56 : okT L (nx tp L (nx tp L (nx tp L (nx tp L k)))) := nx_ok ok30.2.2.1
          have hf56 := hf30.tr hF56
          have vb56 := ok56.2.2.2
          have sb56 := ok56.1
          show zV G (eX7_readCoin (g_rmv 6)) (0, 0) 59 [(0, .ref 76), (1, .int (nI kd)), (2, .int (nI ((nx tp L k).2.2.2))), (3, .int (nI ((nx tp L (nx tp L k)).2.2.2))), (4, .int (nI 0))] [] (mm I56 J t) _
          by_cases hN62 : num (nx tp L (nx tp L (nx tp L (nx tp L k)))) 3
          · skip
            refine zV_aload_n dX7_readCoin_59 rfl 0 rfl rfl ?_
            refine zV_iconst (v := (nI 0)) dX7_readCoin_60 rfl rfl ?_
            refine zV_iconst (v := (nI 3)) dX7_readCoin_61 rfl rfl ?_
            refine zV_callV (E' := eX7_number (g_rmv 3)) (av := [.int (nI 0), .int (nI 3)]) (st := []) (b := 76) dX7_readCoin_62 rfl (k_RX7_281 _) rfl ⟨by decide, by decide⟩ ⟨by decide, by decide⟩ (Or.inl rfl) rfl (Nat.le_of_ble_eq_true rfl) rfl rfl rfl (m_numY (x := (nI 3)) (hf56.use hr) hk56 ok56 hw56 ⟨hN62.1, nI_le hN62.2 (by decide)⟩) (fun r62 M62 z => ?_)
            obtain ⟨I62, rfl, rfl, hT62, hF62, hw62⟩ := z
            have hk62 : tkM I62 (nx tp L (nx tp L (nx tp L (nx tp L (nx tp L k))))) := hT62
            have ok62 : okT L (nx tp L (nx tp L (nx tp L (nx tp L (nx tp L k))))) := nx_ok ok56.2.2.1
            have hf62 := hf56.tr hF62
            have vb62 := ok62.2.2.2
            have sb62 := ok62.1
            show zV G (eX7_readCoin (g_rmv 6)) (0, 0) 65 [(0, .ref 76), (1, .int (nI kd)), (2, .int (nI ((nx tp L k).2.2.2))), (3, .int (nI ((nx tp L (nx tp L k)).2.2.2))), (4, .int (nI 0))] [.int (nI ((nx tp L (nx tp L (nx tp L (nx tp L k)))).2.2.2))] (mm I62 J t) _
            refine zV_istore (lv' := [(0, .ref 76), (1, .int (nI kd)), (2, .int (nI ((nx tp L k).2.2.2))), (3, .int (nI ((nx tp L (nx tp L k)).2.2.2))), (4, .int (nI ((nx tp L (nx tp L (nx tp L (nx tp L k)))).2.2.2)))]) dX7_readCoin_65 rfl (by decide) rfl ?_
            refine zV_iconst (v := (nI 0)) dX7_readCoin_67 rfl rfl ?_
            refine zV_istore (lv' := [(0, .ref 76), (1, .int (nI kd)), (2, .int (nI ((nx tp L k).2.2.2))), (3, .int (nI ((nx tp L (nx tp L k)).2.2.2))), (4, .int (nI ((nx tp L (nx tp L (nx tp L (nx tp L k)))).2.2.2))), (5, .int (nI 0))]) dX7_readCoin_68 rfl (by decide) rfl ?_
            refine zV_aload_n dX7_readCoin_70 rfl 0 rfl rfl ?_
            refine zV_getI (x := (nI 0)) 15 dX7_readCoin_71 rfl fl_RX7_252 rfl (by decide) rfl hw62 ?_
            refine zN_if_ne (tgt := 95) dX7_readCoin_74 rfl rfl (by decide) (fun z => absurd z (by decide)) (fun _ => ?_)
            refine zV_aload_n dX7_readCoin_77 rfl 0 rfl rfl ?_
            refine zV_ldcwS (i := 10) (tx := "ship") dX7_readCoin_78 rfl (by decide) ?_
            refine zV_callV (E' := eX7_isWord (g_rmv 5)) (av := [.ref (1000 + 10)]) (st := []) (b := 76) dX7_readCoin_81 rfl (k_RX7_266 _) rfl ⟨by decide, by decide⟩ ⟨by decide, by decide⟩ (Or.inl rfl) rfl (Nat.le_of_ble_eq_true rfl) rfl rfl rfl (m_isWord (t := 10) (hf62.use hr) hk62 ok62 (by decide)) (fun r81 M81 z => ?_)
            obtain ⟨rfl, rfl⟩ := z
            show zV G (eX7_readCoin (g_rmv 6)) (0, 0) 84 [(0, .ref 76), (1, .int (nI kd)), (2, .int (nI ((nx tp L k).2.2.2))), (3, .int (nI ((nx tp L (nx tp L k)).2.2.2))), (4, .int (nI ((nx tp L (nx tp L (nx tp L (nx tp L k)))).2.2.2))), (5, .int (nI 0))] [.int (b2 (isW tp (nx tp L (nx tp L (nx tp L (nx tp L (nx tp L k))))) 10))] (mm I62 J t) _
            refine zB_if_eq (tgt := 95) dX7_readCoin_84 rfl rfl  (fun h84 => ?_) (fun h84 => ?_)
            · skip
              refine zV_aload_n dX7_readCoin_95 rfl 0 rfl rfl ?_
              refine zV_getI (x := (nI 0)) 15 dX7_readCoin_96 rfl fl_RX7_252 rfl (by decide) rfl hw62 ?_
              refine zN_if_ne (tgt := 123) dX7_readCoin_99 rfl rfl (by decide) (fun z => absurd z (by decide)) (fun _ => ?_)
              refine zV_aload_n dX7_readCoin_102 rfl 0 rfl rfl ?_
              refine zV_getr (q' := 85) 20 dX7_readCoin_103 rfl fl_RX7_52 rfl (by decide) rfl rfl ?_
              refine zV_aload_n dX7_readCoin_106 rfl 0 rfl rfl ?_
              refine zV_getI (x := (nI τ.1)) 19 dX7_readCoin_107 rfl fl_RX7_278 rfl (by decide) rfl ((hf62.2 19 (by omega)).trans h19) ?_
              refine zV_iload dX7_readCoin_110 rfl 4 rfl ?_
              refine zV_iastore τ.1 dX7_readCoin_112 rfl rfl rfl (by omega) (by decide)  ?_
              refine zV_aload_n dX7_readCoin_113 rfl 0 rfl rfl ?_
              refine zV_dup dX7_readCoin_114 rfl rfl ?_
              refine zV_getI (x := (nI τ.1)) 19 dX7_readCoin_115 rfl fl_RX7_278 rfl (by decide) rfl (by rw [up2_ni (by decide)]; exact ((hf62.2 19 (by omega)).trans h19)) ?_
              refine zV_iconst (v := (nI 1)) dX7_readCoin_118 rfl rfl ?_
              refine zA_iadd (z := (nI (τ.1 + 1))) dX7_readCoin_119 rfl  (nI_add _ _) ?_
              refine zV_puti 19 dX7_readCoin_120 rfl fl_RX7_278 rfl (by decide) rfl rfl rfl ?_
              refine zV_aload_n dX7_readCoin_123 rfl 0 rfl rfl ?_
              refine zV_iload_n dX7_readCoin_124 rfl 1 rfl rfl ?_
              refine zV_iload_n dX7_readCoin_125 rfl 2 rfl rfl ?_
              refine zV_iload_n dX7_readCoin_126 rfl 3 rfl rfl ?_
              refine zV_iload dX7_readCoin_127 rfl 4 rfl ?_
              refine zV_iload dX7_readCoin_129 rfl 5 rfl ?_
              refine zV_callV (E' := eX7_item (g_rmv 0)) (av := [.int (nI kd), .int (nI ((nx tp L k).2.2.2)), .int (nI ((nx tp L (nx tp L k)).2.2.2)), .int (nI ((nx tp L (nx tp L (nx tp L (nx tp L k)))).2.2.2)), .int (nI 0)]) (st := []) (b := 76) dX7_readCoin_131 rfl (k_RX7_286 _) rfl ⟨by decide, by decide⟩ ⟨by decide, by decide⟩ (Or.inl rfl) rfl (Nat.le_of_ble_eq_true rfl) rfl rfl rfl (m_item (n := n) (w := kd) (a := (nx tp L k).2.2.2) (b := (nx tp L (nx tp L k)).2.2.2) (c := (nx tp L (nx tp L (nx tp L (nx tp L k)))).2.2.2) (d := 0) (by rw [up2_nk (by decide), up2_ni (by decide)]; exact (hf62.2 18 (by omega)).trans h18) hn) (fun r131 M131 z => ?_)
              obtain ⟨Iz, rfl, rfl, hz⟩ := z
              show zV G (eX7_readCoin (g_rmv 6)) (0, 0) 134 [(0, .ref 76), (1, .int (nI kd)), (2, .int (nI ((nx tp L k).2.2.2))), (3, .int (nI ((nx tp L (nx tp L k)).2.2.2))), (4, .int (nI ((nx tp L (nx tp L (nx tp L (nx tp L k)))).2.2.2))), (5, .int (nI 0))] [] (mm Iz J t) _
              exact zV_return dX7_readCoin_134 rfl (⟨Iz, rfl, rfl, rdn_good (I1 := I62) (τ' := (ld_strike τ kd (nx tp L k).2.2.2 (nx tp L (nx tp L k)).2.2.2 (nx tp L (nx tp L (nx tp L (nx tp L k)))).2.2.2 0)) hf62 hk62 hw62 (fun i h1 h2 => by funext z; rw [up2_ni h2, up2_ni h1]) (fun j hj => by rw [up2_nk hj, up2_ni (by decide)]) hz ((show rCoin tp L kd k τ = (true, (nx tp L (nx tp L (nx tp L (nx tp L (nx tp L k))))), (ld_cset (ld_add τ kd (nx tp L k).2.2.2 (nx tp L (nx tp L k)).2.2.2) τ.1 (k_set ((ld_add τ kd (nx tp L k).2.2.2 (nx tp L (nx tp L k)).2.2.2).2.1 τ.1) 1 (nx tp L (nx tp L (nx tp L (nx tp L k)))).2.2.2))) from (if_pos (show τ.1 < 10 by omega)).trans ((if_pos hN22).trans ((if_pos hN30).trans ((if_pos h51).trans ((if_pos hN62).trans (if_neg h84)))))).trans (by rw [stk_p])) (show ap1 (eF kd (nx tp L k).2.2.2 (nx tp L (nx tp L k)).2.2.2 (nx tp L (nx tp L (nx tp L (nx tp L k)))).2.2.2 0) τ = (ld_strike τ kd (nx tp L k).2.2.2 (nx tp L (nx tp L k)).2.2.2 (nx tp L (nx tp L (nx tp L (nx tp L k)))).2.2.2 0) from if_neg (show ¬ kd = 10 by omega)) (show okE (eF kd (nx tp L k).2.2.2 (nx tp L (nx tp L k)).2.2.2 (nx tp L (nx tp L (nx tp L (nx tp L k)))).2.2.2 0) τ from (by unfold okE; rw [if_neg (show ¬ (eF kd (nx tp L k).2.2.2 (nx tp L (nx tp L k)).2.2.2 (nx tp L (nx tp L (nx tp L (nx tp L k)))).2.2.2 0) 0 = 10 from (show ¬ kd = 10 by omega))]; exact ⟨show kd ≤ 10 by omega, by omega⟩)) (up2_same _ _ _ _) (fun c hc => by
                  rw [stk_purse, up2_ni (by decide)]
                  by_cases ec : c = τ.1
                  · rw [if_pos ec, ec, up2_same]
                  · rw [if_neg ec, up2_nk ec, hf62.1 85 (by decide)]; exact h85 c (by have h9 : c < τ.1 + 1 := hc; omega))⟩)
            · skip
              refine zV_aload_n dX7_readCoin_87 rfl 0 rfl rfl ?_
              refine zV_iconst (v := (nI 1)) dX7_readCoin_88 rfl rfl ?_
              refine zV_callV (E' := eX7_must (g_rmv 2)) (av := [.int (nI 1)]) (st := []) (b := 76) dX7_readCoin_89 rfl (k_RX7_259 _) rfl ⟨by decide, by decide⟩ ⟨by decide, by decide⟩ (Or.inl rfl) rfl (Nat.le_of_ble_eq_true rfl) rfl rfl rfl (m_must1 (hf62.use hr) hk62 ok62 hw62) (fun r89 M89 z => ?_)
              obtain ⟨I89, rfl, rfl, hT89, hF89, hw89⟩ := z
              have hk89 : tkM I89 (nx tp L (nx tp L (nx tp L (nx tp L (nx tp L (nx tp L k)))))) := hT89
              have ok89 : okT L (nx tp L (nx tp L (nx tp L (nx tp L (nx tp L (nx tp L k)))))) := nx_ok ok62.2.2.1
              have hf89 := hf62.tr hF89
              have vb89 := ok89.2.2.2
              have sb89 := ok89.1
              show zV G (eX7_readCoin (g_rmv 6)) (0, 0) 92 [(0, .ref 76), (1, .int (nI kd)), (2, .int (nI ((nx tp L k).2.2.2))), (3, .int (nI ((nx tp L (nx tp L k)).2.2.2))), (4, .int (nI ((nx tp L (nx tp L (nx tp L (nx tp L k)))).2.2.2))), (5, .int (nI 0))] [] (mm I89 J t) _
              refine zV_iconst (v := (nI 1)) dX7_readCoin_92 rfl rfl ?_
              refine zV_istore (lv' := [(0, .ref 76), (1, .int (nI kd)), (2, .int (nI ((nx tp L k).2.2.2))), (3, .int (nI ((nx tp L (nx tp L k)).2.2.2))), (4, .int (nI ((nx tp L (nx tp L (nx tp L (nx tp L k)))).2.2.2))), (5, .int (nI 1))]) dX7_readCoin_93 rfl (by decide) rfl ?_
              refine zV_aload_n dX7_readCoin_95 rfl 0 rfl rfl ?_
              refine zV_getI (x := (nI 0)) 15 dX7_readCoin_96 rfl fl_RX7_252 rfl (by decide) rfl hw89 ?_
              refine zN_if_ne (tgt := 123) dX7_readCoin_99 rfl rfl (by decide) (fun z => absurd z (by decide)) (fun _ => ?_)
              refine zV_aload_n dX7_readCoin_102 rfl 0 rfl rfl ?_
              refine zV_getr (q' := 85) 20 dX7_readCoin_103 rfl fl_RX7_52 rfl (by decide) rfl rfl ?_
              refine zV_aload_n dX7_readCoin_106 rfl 0 rfl rfl ?_
              refine zV_getI (x := (nI τ.1)) 19 dX7_readCoin_107 rfl fl_RX7_278 rfl (by decide) rfl ((hf89.2 19 (by omega)).trans h19) ?_
              refine zV_iload dX7_readCoin_110 rfl 4 rfl ?_
              refine zV_iastore τ.1 dX7_readCoin_112 rfl rfl rfl (by omega) (by decide)  ?_
              refine zV_aload_n dX7_readCoin_113 rfl 0 rfl rfl ?_
              refine zV_dup dX7_readCoin_114 rfl rfl ?_
              refine zV_getI (x := (nI τ.1)) 19 dX7_readCoin_115 rfl fl_RX7_278 rfl (by decide) rfl (by rw [up2_ni (by decide)]; exact ((hf89.2 19 (by omega)).trans h19)) ?_
              refine zV_iconst (v := (nI 1)) dX7_readCoin_118 rfl rfl ?_
              refine zA_iadd (z := (nI (τ.1 + 1))) dX7_readCoin_119 rfl  (nI_add _ _) ?_
              refine zV_puti 19 dX7_readCoin_120 rfl fl_RX7_278 rfl (by decide) rfl rfl rfl ?_
              refine zV_aload_n dX7_readCoin_123 rfl 0 rfl rfl ?_
              refine zV_iload_n dX7_readCoin_124 rfl 1 rfl rfl ?_
              refine zV_iload_n dX7_readCoin_125 rfl 2 rfl rfl ?_
              refine zV_iload_n dX7_readCoin_126 rfl 3 rfl rfl ?_
              refine zV_iload dX7_readCoin_127 rfl 4 rfl ?_
              refine zV_iload dX7_readCoin_129 rfl 5 rfl ?_
              refine zV_callV (E' := eX7_item (g_rmv 0)) (av := [.int (nI kd), .int (nI ((nx tp L k).2.2.2)), .int (nI ((nx tp L (nx tp L k)).2.2.2)), .int (nI ((nx tp L (nx tp L (nx tp L (nx tp L k)))).2.2.2)), .int (nI 1)]) (st := []) (b := 76) dX7_readCoin_131 rfl (k_RX7_286 _) rfl ⟨by decide, by decide⟩ ⟨by decide, by decide⟩ (Or.inl rfl) rfl (Nat.le_of_ble_eq_true rfl) rfl rfl rfl (m_item (n := n) (w := kd) (a := (nx tp L k).2.2.2) (b := (nx tp L (nx tp L k)).2.2.2) (c := (nx tp L (nx tp L (nx tp L (nx tp L k)))).2.2.2) (d := 1) (by rw [up2_nk (by decide), up2_ni (by decide)]; exact (hf89.2 18 (by omega)).trans h18) hn) (fun r131 M131 z => ?_)
              obtain ⟨Iz, rfl, rfl, hz⟩ := z
              show zV G (eX7_readCoin (g_rmv 6)) (0, 0) 134 [(0, .ref 76), (1, .int (nI kd)), (2, .int (nI ((nx tp L k).2.2.2))), (3, .int (nI ((nx tp L (nx tp L k)).2.2.2))), (4, .int (nI ((nx tp L (nx tp L (nx tp L (nx tp L k)))).2.2.2))), (5, .int (nI 1))] [] (mm Iz J t) _
              exact zV_return dX7_readCoin_134 rfl (⟨Iz, rfl, rfl, rdn_good (I1 := I89) (τ' := (ld_strike τ kd (nx tp L k).2.2.2 (nx tp L (nx tp L k)).2.2.2 (nx tp L (nx tp L (nx tp L (nx tp L k)))).2.2.2 1)) hf89 hk89 hw89 (fun i h1 h2 => by funext z; rw [up2_ni h2, up2_ni h1]) (fun j hj => by rw [up2_nk hj, up2_ni (by decide)]) hz ((show rCoin tp L kd k τ = (true, (nx tp L (nx tp L (nx tp L (nx tp L (nx tp L (nx tp L k)))))), (ld_cset (ld_cset (ld_add τ kd (nx tp L k).2.2.2 (nx tp L (nx tp L k)).2.2.2) τ.1 (k_set ((ld_add τ kd (nx tp L k).2.2.2 (nx tp L (nx tp L k)).2.2.2).2.1 τ.1) 1 (nx tp L (nx tp L (nx tp L (nx tp L k)))).2.2.2)) τ.1 (k_set ((ld_cset (ld_add τ kd (nx tp L k).2.2.2 (nx tp L (nx tp L k)).2.2.2) τ.1 (k_set ((ld_add τ kd (nx tp L k).2.2.2 (nx tp L (nx tp L k)).2.2.2).2.1 τ.1) 1 (nx tp L (nx tp L (nx tp L (nx tp L k)))).2.2.2)).2.1 τ.1) 4 1))) from (if_pos (show τ.1 < 10 by omega)).trans ((if_pos hN22).trans ((if_pos hN30).trans ((if_pos h51).trans ((if_pos hN62).trans (if_pos h84)))))).trans (by rw [stk_l, stk_p])) (show ap1 (eF kd (nx tp L k).2.2.2 (nx tp L (nx tp L k)).2.2.2 (nx tp L (nx tp L (nx tp L (nx tp L k)))).2.2.2 1) τ = (ld_strike τ kd (nx tp L k).2.2.2 (nx tp L (nx tp L k)).2.2.2 (nx tp L (nx tp L (nx tp L (nx tp L k)))).2.2.2 1) from if_neg (show ¬ kd = 10 by omega)) (show okE (eF kd (nx tp L k).2.2.2 (nx tp L (nx tp L k)).2.2.2 (nx tp L (nx tp L (nx tp L (nx tp L k)))).2.2.2 1) τ from (by unfold okE; rw [if_neg (show ¬ (eF kd (nx tp L k).2.2.2 (nx tp L (nx tp L k)).2.2.2 (nx tp L (nx tp L (nx tp L (nx tp L k)))).2.2.2 1) 0 = 10 from (show ¬ kd = 10 by omega))]; exact ⟨show kd ≤ 10 by omega, by omega⟩)) (up2_same _ _ _ _) (fun c hc => by
                  rw [stk_purse, up2_ni (by decide)]
                  by_cases ec : c = τ.1
                  · rw [if_pos ec, ec, up2_same]
                  · rw [if_neg ec, up2_nk ec, hf89.1 85 (by decide)]; exact h85 c (by have h9 : c < τ.1 + 1 := hc; omega))⟩)
          · skip
            refine zV_aload_n dX7_readCoin_59 rfl 0 rfl rfl ?_
            refine zV_iconst (v := (nI 0)) dX7_readCoin_60 rfl rfl ?_
            refine zV_iconst (v := (nI 3)) dX7_readCoin_61 rfl rfl ?_
            refine zV_callV (E' := eX7_number (g_rmv 3)) (av := [.int (nI 0), .int (nI 3)]) (st := []) (b := 76) dX7_readCoin_62 rfl (k_RX7_281 _) rfl ⟨by decide, by decide⟩ ⟨by decide, by decide⟩ (Or.inl rfl) rfl (Nat.le_of_ble_eq_true rfl) rfl rfl rfl (m_numN (x := (nI 3)) (hf56.use hr) hk56 ok56 hw56 (fun z => hN62 ⟨z.1, (nI_leI (by omega) (by decide)).mp z.2⟩)) (fun r62 M62 z => ?_)
            obtain ⟨rfl, rfl⟩ := z
            have hk62 : tkM (up2 I56 76 15 (nI 1)) (nx tp L (nx tp L (nx tp L (nx tp L k)))) := hk56.mv (fun j h1 h2 => up2_nk (by omega))
            have hf62 : fr7 I (up2 I56 76 15 (nI 1)) := hf56.up (by decide)
            have hw62 : (up2 I56 76 15 (nI 1)) 76 15 = nI 1 := up2_same _ _ _ _
            show zV G (eX7_readCoin (g_rmv 6)) (0, 0) 65 [(0, .ref 76), (1, .int (nI kd)), (2, .int (nI ((nx tp L k).2.2.2))), (3, .int (nI ((nx tp L (nx tp L k)).2.2.2))), (4, .int (nI 0))] [.int (nI ((nx tp L (nx tp L (nx tp L (nx tp L k)))).2.2.2))] (mm (up2 I56 76 15 (nI 1)) J t) _
            refine zV_istore (lv' := [(0, .ref 76), (1, .int (nI kd)), (2, .int (nI ((nx tp L k).2.2.2))), (3, .int (nI ((nx tp L (nx tp L k)).2.2.2))), (4, .int (nI ((nx tp L (nx tp L (nx tp L (nx tp L k)))).2.2.2)))]) dX7_readCoin_65 rfl (by decide) rfl ?_
            refine zV_iconst (v := (nI 0)) dX7_readCoin_67 rfl rfl ?_
            refine zV_istore (lv' := [(0, .ref 76), (1, .int (nI kd)), (2, .int (nI ((nx tp L k).2.2.2))), (3, .int (nI ((nx tp L (nx tp L k)).2.2.2))), (4, .int (nI ((nx tp L (nx tp L (nx tp L (nx tp L k)))).2.2.2))), (5, .int (nI 0))]) dX7_readCoin_68 rfl (by decide) rfl ?_
            refine zV_aload_n dX7_readCoin_70 rfl 0 rfl rfl ?_
            refine zV_getI (x := (nI 1)) 15 dX7_readCoin_71 rfl fl_RX7_252 rfl (by decide) rfl hw62 ?_
            refine zN_if_ne (tgt := 95) dX7_readCoin_74 rfl rfl (by decide) (fun _ => ?_) (fun z => absurd z (by decide))
            refine zV_aload_n dX7_readCoin_95 rfl 0 rfl rfl ?_
            refine zV_getI (x := (nI 1)) 15 dX7_readCoin_96 rfl fl_RX7_252 rfl (by decide) rfl hw62 ?_
            refine zN_if_ne (tgt := 123) dX7_readCoin_99 rfl rfl (by decide) (fun _ => ?_) (fun z => absurd z (by decide))
            refine zV_aload_n dX7_readCoin_123 rfl 0 rfl rfl ?_
            refine zV_iload_n dX7_readCoin_124 rfl 1 rfl rfl ?_
            refine zV_iload_n dX7_readCoin_125 rfl 2 rfl rfl ?_
            refine zV_iload_n dX7_readCoin_126 rfl 3 rfl rfl ?_
            refine zV_iload dX7_readCoin_127 rfl 4 rfl ?_
            refine zV_iload dX7_readCoin_129 rfl 5 rfl ?_
            refine zV_callV (E' := eX7_item (g_rmv 0)) (av := [.int (nI kd), .int (nI ((nx tp L k).2.2.2)), .int (nI ((nx tp L (nx tp L k)).2.2.2)), .int (nI ((nx tp L (nx tp L (nx tp L (nx tp L k)))).2.2.2)), .int (nI 0)]) (st := []) (b := 76) dX7_readCoin_131 rfl (k_RX7_286 _) rfl ⟨by decide, by decide⟩ ⟨by decide, by decide⟩ (Or.inl rfl) rfl (Nat.le_of_ble_eq_true rfl) rfl rfl rfl (m_item (n := n) (w := kd) (a := (nx tp L k).2.2.2) (b := (nx tp L (nx tp L k)).2.2.2) (c := (nx tp L (nx tp L (nx tp L (nx tp L k)))).2.2.2) (d := 0) ((hf62.2 18 (by omega)).trans h18) hn) (fun r131 M131 z => ?_)
            obtain ⟨Iz, rfl, rfl, hz⟩ := z
            show zV G (eX7_readCoin (g_rmv 6)) (0, 0) 134 [(0, .ref 76), (1, .int (nI kd)), (2, .int (nI ((nx tp L k).2.2.2))), (3, .int (nI ((nx tp L (nx tp L k)).2.2.2))), (4, .int (nI ((nx tp L (nx tp L (nx tp L (nx tp L k)))).2.2.2))), (5, .int (nI 0))] [] (mm Iz J t) _
            exact zV_return dX7_readCoin_134 rfl (⟨Iz, rfl, rfl, rdn_bad hf62 hk62 hw62 (fun _ _ => rfl) hz (show rCoin tp L kd k τ = (false, (nx tp L (nx tp L (nx tp L (nx tp L k)))), τ) from (if_pos (show τ.1 < 10 by omega)).trans ((if_pos hN22).trans ((if_pos hN30).trans ((if_pos h51).trans (if_neg hN62)))))⟩)
      · skip
        refine zV_aload_n dX7_readCoin_26 rfl 0 rfl rfl ?_
        refine zV_iconst (v := (nI 0)) dX7_readCoin_27 rfl rfl ?_
        refine zV_bipush (v := (nI 99)) dX7_readCoin_28 rfl rfl ?_
        refine zV_callV (E' := eX7_number (g_rmv 3)) (av := [.int (nI 0), .int (nI 99)]) (st := []) (b := 76) dX7_readCoin_30 rfl (k_RX7_281 _) rfl ⟨by decide, by decide⟩ ⟨by decide, by decide⟩ (Or.inl rfl) rfl (Nat.le_of_ble_eq_true rfl) rfl rfl rfl (m_numN (x := (nI 99)) (hf22.use hr) hk22 ok22 hw22 (fun z => hN30 ⟨z.1, (nI_leI (by omega) (by decide)).mp z.2⟩)) (fun r30 M30 z => ?_)
        obtain ⟨rfl, rfl⟩ := z
        have hk30 : tkM (up2 I22 76 15 (nI 1)) (nx tp L (nx tp L k)) := hk22.mv (fun j h1 h2 => up2_nk (by omega))
        have hf30 : fr7 I (up2 I22 76 15 (nI 1)) := hf22.up (by decide)
        have hw30 : (up2 I22 76 15 (nI 1)) 76 15 = nI 1 := up2_same _ _ _ _
        show zV G (eX7_readCoin (g_rmv 6)) (0, 0) 33 [(0, .ref 76), (1, .int (nI kd)), (2, .int (nI ((nx tp L k).2.2.2)))] [.int (nI ((nx tp L (nx tp L k)).2.2.2))] (mm (up2 I22 76 15 (nI 1)) J t) _
        refine zV_istore_n (lv' := [(0, .ref 76), (1, .int (nI kd)), (2, .int (nI ((nx tp L k).2.2.2))), (3, .int (nI ((nx tp L (nx tp L k)).2.2.2)))]) dX7_readCoin_33 rfl rfl (by decide) rfl ?_
        refine zV_iconst (v := (nI 0)) dX7_readCoin_34 rfl rfl ?_
        refine zV_istore (lv' := [(0, .ref 76), (1, .int (nI kd)), (2, .int (nI ((nx tp L k).2.2.2))), (3, .int (nI ((nx tp L (nx tp L k)).2.2.2))), (4, .int (nI 0))]) dX7_readCoin_35 rfl (by decide) rfl ?_
        refine zV_aload_n dX7_readCoin_37 rfl 0 rfl rfl ?_
        refine zV_getI (x := (nI 1)) 15 dX7_readCoin_38 rfl fl_RX7_252 rfl (by decide) rfl hw30 ?_
        refine zN_if_ne (tgt := 67) dX7_readCoin_41 rfl rfl (by decide) (fun _ => ?_) (fun z => absurd z (by decide))
        refine zV_iconst (v := (nI 0)) dX7_readCoin_67 rfl rfl ?_
        refine zV_istore (lv' := [(0, .ref 76), (1, .int (nI kd)), (2, .int (nI ((nx tp L k).2.2.2))), (3, .int (nI ((nx tp L (nx tp L k)).2.2.2))), (4, .int (nI 0)), (5, .int (nI 0))]) dX7_readCoin_68 rfl (by decide) rfl ?_
        refine zV_aload_n dX7_readCoin_70 rfl 0 rfl rfl ?_
        refine zV_getI (x := (nI 1)) 15 dX7_readCoin_71 rfl fl_RX7_252 rfl (by decide) rfl hw30 ?_
        refine zN_if_ne (tgt := 95) dX7_readCoin_74 rfl rfl (by decide) (fun _ => ?_) (fun z => absurd z (by decide))
        refine zV_aload_n dX7_readCoin_95 rfl 0 rfl rfl ?_
        refine zV_getI (x := (nI 1)) 15 dX7_readCoin_96 rfl fl_RX7_252 rfl (by decide) rfl hw30 ?_
        refine zN_if_ne (tgt := 123) dX7_readCoin_99 rfl rfl (by decide) (fun _ => ?_) (fun z => absurd z (by decide))
        refine zV_aload_n dX7_readCoin_123 rfl 0 rfl rfl ?_
        refine zV_iload_n dX7_readCoin_124 rfl 1 rfl rfl ?_
        refine zV_iload_n dX7_readCoin_125 rfl 2 rfl rfl ?_
        refine zV_iload_n dX7_readCoin_126 rfl 3 rfl rfl ?_
        refine zV_iload dX7_readCoin_127 rfl 4 rfl ?_
        refine zV_iload dX7_readCoin_129 rfl 5 rfl ?_
        refine zV_callV (E' := eX7_item (g_rmv 0)) (av := [.int (nI kd), .int (nI ((nx tp L k).2.2.2)), .int (nI ((nx tp L (nx tp L k)).2.2.2)), .int (nI 0), .int (nI 0)]) (st := []) (b := 76) dX7_readCoin_131 rfl (k_RX7_286 _) rfl ⟨by decide, by decide⟩ ⟨by decide, by decide⟩ (Or.inl rfl) rfl (Nat.le_of_ble_eq_true rfl) rfl rfl rfl (m_item (n := n) (w := kd) (a := (nx tp L k).2.2.2) (b := (nx tp L (nx tp L k)).2.2.2) (c := 0) (d := 0) ((hf30.2 18 (by omega)).trans h18) hn) (fun r131 M131 z => ?_)
        obtain ⟨Iz, rfl, rfl, hz⟩ := z
        show zV G (eX7_readCoin (g_rmv 6)) (0, 0) 134 [(0, .ref 76), (1, .int (nI kd)), (2, .int (nI ((nx tp L k).2.2.2))), (3, .int (nI ((nx tp L (nx tp L k)).2.2.2))), (4, .int (nI 0)), (5, .int (nI 0))] [] (mm Iz J t) _
        exact zV_return dX7_readCoin_134 rfl (⟨Iz, rfl, rfl, rdn_bad hf30 hk30 hw30 (fun _ _ => rfl) hz (show rCoin tp L kd k τ = (false, (nx tp L (nx tp L k)), τ) from (if_pos (show τ.1 < 10 by omega)).trans ((if_pos hN22).trans (if_neg hN30)))⟩)
    · skip
      refine zV_aload_n dX7_readCoin_18 rfl 0 rfl rfl ?_
      refine zV_iconst (v := (nI 0)) dX7_readCoin_19 rfl rfl ?_
      refine zV_bipush (v := (nI 99)) dX7_readCoin_20 rfl rfl ?_
      refine zV_callV (E' := eX7_number (g_rmv 3)) (av := [.int (nI 0), .int (nI 99)]) (st := []) (b := 76) dX7_readCoin_22 rfl (k_RX7_281 _) rfl ⟨by decide, by decide⟩ ⟨by decide, by decide⟩ (Or.inl rfl) rfl (Nat.le_of_ble_eq_true rfl) rfl rfl rfl (m_numN (x := (nI 99)) (hf15.use hr) hk15 ok15 hw15 (fun z => hN22 ⟨z.1, (nI_leI (by omega) (by decide)).mp z.2⟩)) (fun r22 M22 z => ?_)
      obtain ⟨rfl, rfl⟩ := z
      have hk22 : tkM (up2 I15 76 15 (nI 1)) (nx tp L k) := hk15.mv (fun j h1 h2 => up2_nk (by omega))
      have hf22 : fr7 I (up2 I15 76 15 (nI 1)) := hf15.up (by decide)
      have hw22 : (up2 I15 76 15 (nI 1)) 76 15 = nI 1 := up2_same _ _ _ _
      show zV G (eX7_readCoin (g_rmv 6)) (0, 0) 25 [(0, .ref 76), (1, .int (nI kd))] [.int (nI ((nx tp L k).2.2.2))] (mm (up2 I15 76 15 (nI 1)) J t) _
      refine zV_istore_n (lv' := [(0, .ref 76), (1, .int (nI kd)), (2, .int (nI ((nx tp L k).2.2.2)))]) dX7_readCoin_25 rfl rfl (by decide) rfl ?_
      refine zV_aload_n dX7_readCoin_26 rfl 0 rfl rfl ?_
      refine zV_iconst (v := (nI 0)) dX7_readCoin_27 rfl rfl ?_
      refine zV_bipush (v := (nI 99)) dX7_readCoin_28 rfl rfl ?_
      refine zV_callV (E' := eX7_number (g_rmv 3)) (av := [.int (nI 0), .int (nI 99)]) (st := []) (b := 76) dX7_readCoin_30 rfl (k_RX7_281 _) rfl ⟨by decide, by decide⟩ ⟨by decide, by decide⟩ (Or.inl rfl) rfl (Nat.le_of_ble_eq_true rfl) rfl rfl rfl (m_numW (x := (nI 99)) (hf22.use hr) hk22 ok15 hw22) (fun r30 M30 z => ?_)
      obtain ⟨rfl, rfl⟩ := z
      have hk30 : tkM (up2 (up2 I15 76 15 (nI 1)) 76 15 (nI 1)) (nx tp L k) := hk22.mv (fun j h1 h2 => up2_nk (by omega))
      have hf30 : fr7 I (up2 (up2 I15 76 15 (nI 1)) 76 15 (nI 1)) := hf22.up (by decide)
      have hw30 : (up2 (up2 I15 76 15 (nI 1)) 76 15 (nI 1)) 76 15 = nI 1 := up2_same _ _ _ _
      show zV G (eX7_readCoin (g_rmv 6)) (0, 0) 33 [(0, .ref 76), (1, .int (nI kd)), (2, .int (nI ((nx tp L k).2.2.2)))] [.int (nI ((nx tp L k).2.2.2))] (mm (up2 (up2 I15 76 15 (nI 1)) 76 15 (nI 1)) J t) _
      refine zV_istore_n (lv' := [(0, .ref 76), (1, .int (nI kd)), (2, .int (nI ((nx tp L k).2.2.2))), (3, .int (nI ((nx tp L k).2.2.2)))]) dX7_readCoin_33 rfl rfl (by decide) rfl ?_
      refine zV_iconst (v := (nI 0)) dX7_readCoin_34 rfl rfl ?_
      refine zV_istore (lv' := [(0, .ref 76), (1, .int (nI kd)), (2, .int (nI ((nx tp L k).2.2.2))), (3, .int (nI ((nx tp L k).2.2.2))), (4, .int (nI 0))]) dX7_readCoin_35 rfl (by decide) rfl ?_
      refine zV_aload_n dX7_readCoin_37 rfl 0 rfl rfl ?_
      refine zV_getI (x := (nI 1)) 15 dX7_readCoin_38 rfl fl_RX7_252 rfl (by decide) rfl hw30 ?_
      refine zN_if_ne (tgt := 67) dX7_readCoin_41 rfl rfl (by decide) (fun _ => ?_) (fun z => absurd z (by decide))
      refine zV_iconst (v := (nI 0)) dX7_readCoin_67 rfl rfl ?_
      refine zV_istore (lv' := [(0, .ref 76), (1, .int (nI kd)), (2, .int (nI ((nx tp L k).2.2.2))), (3, .int (nI ((nx tp L k).2.2.2))), (4, .int (nI 0)), (5, .int (nI 0))]) dX7_readCoin_68 rfl (by decide) rfl ?_
      refine zV_aload_n dX7_readCoin_70 rfl 0 rfl rfl ?_
      refine zV_getI (x := (nI 1)) 15 dX7_readCoin_71 rfl fl_RX7_252 rfl (by decide) rfl hw30 ?_
      refine zN_if_ne (tgt := 95) dX7_readCoin_74 rfl rfl (by decide) (fun _ => ?_) (fun z => absurd z (by decide))
      refine zV_aload_n dX7_readCoin_95 rfl 0 rfl rfl ?_
      refine zV_getI (x := (nI 1)) 15 dX7_readCoin_96 rfl fl_RX7_252 rfl (by decide) rfl hw30 ?_
      refine zN_if_ne (tgt := 123) dX7_readCoin_99 rfl rfl (by decide) (fun _ => ?_) (fun z => absurd z (by decide))
      refine zV_aload_n dX7_readCoin_123 rfl 0 rfl rfl ?_
      refine zV_iload_n dX7_readCoin_124 rfl 1 rfl rfl ?_
      refine zV_iload_n dX7_readCoin_125 rfl 2 rfl rfl ?_
      refine zV_iload_n dX7_readCoin_126 rfl 3 rfl rfl ?_
      refine zV_iload dX7_readCoin_127 rfl 4 rfl ?_
      refine zV_iload dX7_readCoin_129 rfl 5 rfl ?_
      refine zV_callV (E' := eX7_item (g_rmv 0)) (av := [.int (nI kd), .int (nI ((nx tp L k).2.2.2)), .int (nI ((nx tp L k).2.2.2)), .int (nI 0), .int (nI 0)]) (st := []) (b := 76) dX7_readCoin_131 rfl (k_RX7_286 _) rfl ⟨by decide, by decide⟩ ⟨by decide, by decide⟩ (Or.inl rfl) rfl (Nat.le_of_ble_eq_true rfl) rfl rfl rfl (m_item (n := n) (w := kd) (a := (nx tp L k).2.2.2) (b := (nx tp L k).2.2.2) (c := 0) (d := 0) ((hf30.2 18 (by omega)).trans h18) hn) (fun r131 M131 z => ?_)
      obtain ⟨Iz, rfl, rfl, hz⟩ := z
      show zV G (eX7_readCoin (g_rmv 6)) (0, 0) 134 [(0, .ref 76), (1, .int (nI kd)), (2, .int (nI ((nx tp L k).2.2.2))), (3, .int (nI ((nx tp L k).2.2.2))), (4, .int (nI 0)), (5, .int (nI 0))] [] (mm Iz J t) _
      exact zV_return dX7_readCoin_134 rfl (⟨Iz, rfl, rfl, rdn_bad hf30 hk30 hw30 (fun _ _ => rfl) hz (show rCoin tp L kd k τ = (false, (nx tp L k), τ) from (if_pos (show τ.1 < 10 by omega)).trans (if_neg hN22))⟩)

set_option maxRecDepth 100000 in
theorem m_readItem {G : mG} {I : Nat → Nat → Int32} {J : Nat → Nat → Int64} {t : Nat} {tp : Nat → Nat} {L n B : Nat} {k : aT} {τ : aL} (hr : rdM I tp L) (hk : tkM I k) (ho : okT L k) (hw0 : I 76 15 = nI 0) (h18 : I 76 18 = nI n) (hn : n < 100) (h19 : I 76 19 = nI τ.1) (h85 : ∀ c, c < τ.1 → I 85 c = nI (τ.2.1 c 1)) (hW : wfL B τ) : zC G yX7_readItem (eX7_readItem (g_rmv 7)) [.ref 76] (mm I J t) (fun r M => ∃ I', r = none ∧ M = mm I' J t ∧ rdn I I' n τ (rItem tp L k τ)) := by
  refine zC_of (by decide +kernel) rfl (by decide) (Nat.le_of_ble_eq_true rfl) ?_
  have n10 := hW.1
  have vb0 := ho.2.2.2
  have sb0 := ho.1
  have hL := hr.2.1
  show zV G (eX7_readItem (g_rmv 7)) (0, 0) 0 [(0, .ref 76)] [] (mm I J t) _
  refine zV_aload_n dX7_readItem_0 rfl 0 rfl rfl ?_
  refine zV_callV (E' := eX7_kindTold (g_rmv 6)) (av := []) (st := []) (b := 76) dX7_readItem_1 rfl (k_RX7_270 _) rfl ⟨by decide, by decide⟩ ⟨by decide, by decide⟩ (Or.inl rfl) rfl (Nat.le_of_ble_eq_true rfl) rfl rfl rfl (m_kindTold hr hk ho) (fun r1 M1 z => ?_)
  obtain ⟨rfl, rfl⟩ := z
  show zV G (eX7_readItem (g_rmv 7)) (0, 0) 4 [(0, .ref 76)] [.int (ans (ktl tp k 7))] (mm I J t) _
  by_cases h7 : kdOf tp k < 7
  · rw [ktl_7.1 h7]
    show zV G (eX7_readItem (g_rmv 7)) (0, 0) 4 [(0, .ref 76)] [.int (nI (kdOf tp k))] (mm I J t) _
    refine zV_istore_n (lv' := [(0, .ref 76), (1, .int (nI (kdOf tp k)))]) dX7_readItem_4 rfl rfl (by decide) rfl ?_
    refine zV_iload_n dX7_readItem_5 rfl 1 rfl rfl ?_
    refine zN_if_lt (tgt := 17) dX7_readItem_6 rfl (by omega) rfl ?_
    refine zV_aload_n dX7_readItem_9 rfl 0 rfl rfl ?_
    refine zV_iload_n dX7_readItem_10 rfl 1 rfl rfl ?_
    refine zV_callV (E' := eX7_readCoin (g_rmv 6)) (av := [.int (nI (kdOf tp k))]) (st := []) (b := 76) dX7_readItem_11 rfl (k_RX7_273 _) rfl ⟨by decide, by decide⟩ ⟨by decide, by decide⟩ (Or.inl rfl) rfl (Nat.le_of_ble_eq_true rfl) rfl rfl rfl (m_readCoin (kd := kdOf tp k) hr hk ho hw0 h18 hn h19 h85 hW h7) (fun r11 M11 z => ?_)
    obtain ⟨Iz, rfl, rfl, hz⟩ := z
    show zV G (eX7_readItem (g_rmv 7)) (0, 0) 14 [(0, .ref 76), (1, .int (nI (kdOf tp k)))] [] (mm Iz J t) _
    refine zV_goto (tgt := 129) dX7_readItem_14 rfl ?_
    exact zV_return dX7_readItem_129 rfl (⟨Iz, rfl, rfl, by rw [show rItem tp L k τ = rCoin tp L (kdOf tp k) k τ from if_pos h7]; exact hz⟩)
  · rw [ktl_7.2 h7]
    show zV G (eX7_readItem (g_rmv 7)) (0, 0) 4 [(0, .ref 76)] [.int (-1)] (mm I J t) _
    refine zV_istore_n (lv' := [(0, .ref 76), (1, .int (-1))]) dX7_readItem_4 rfl rfl (by decide) rfl ?_
    refine zV_iload_n dX7_readItem_5 rfl 1 rfl rfl ?_
    refine zV_if_lt (tgt := 17) dX7_readItem_6 rfl rfl  (fun _ => ?_) (fun z => absurd z (by decide))
    refine zV_aload_n dX7_readItem_17 rfl 0 rfl rfl ?_
    refine zV_aload_n dX7_readItem_18 rfl 0 rfl rfl ?_
    refine zV_ldcwS (i := 7) (tx := "pay") dX7_readItem_19 rfl (by decide) ?_
    refine zV_callV (E' := eX7_isWord (g_rmv 5)) (av := [.ref (1000 + 7)]) (st := [.ref 76]) (b := 76) dX7_readItem_22 rfl (k_RX7_266 _) rfl ⟨by decide, by decide⟩ ⟨by decide, by decide⟩ (Or.inl rfl) rfl (Nat.le_of_ble_eq_true rfl) rfl rfl rfl (m_isWord (t := 7) ((fr7.rf (I := I)).use hr) hk ho (by decide)) (fun r22 M22 z => ?_)
    obtain ⟨rfl, rfl⟩ := z
    show zV G (eX7_readItem (g_rmv 7)) (0, 0) 25 [(0, .ref 76), (1, .int (-1))] [.int (b2 (isW tp k 7)), .ref 76] (mm I J t) _
    by_cases hB25 : (isW tp k 7)
    · skip
      refine zV_callV (E' := eX7_must (g_rmv 2)) (av := [.int (b2 (isW tp k 7))]) (st := []) (b := 76) dX7_readItem_25 rfl (k_RX7_259 _) rfl ⟨by decide, by decide⟩ ⟨by decide, by decide⟩ (Or.inl rfl) rfl (Nat.le_of_ble_eq_true rfl) rfl rfl rfl (m_mustY (P := (isW tp k 7)) hB25 ((fr7.rf (I := I)).use hr) hk ho hw0) (fun r25 M25 z => ?_)
      obtain ⟨I25, rfl, rfl, hT25, hF25, hw25⟩ := z
      have hk25 : tkM I25 (nx tp L k) := hT25
      have ok25 : okT L (nx tp L k) := nx_ok ho.2.2.1
      have hf25 := (fr7.rf (I := I)).tr hF25
      have vb25 := ok25.2.2.2
      have sb25 := ok25.1
      show zV G (eX7_readItem (g_rmv 7)) (0, 0) 28 [(0, .ref 76), (1, .int (-1))] [] (mm I25 J t) _
      by_cases hN36 : ((nx tp L k).1 = 2 ∧ (nx tp L k).2.2.2 < τ.1)
      · skip
        refine zV_aload_n dX7_readItem_28 rfl 0 rfl rfl ?_
        refine zV_iconst (v := (nI 0)) dX7_readItem_29 rfl rfl ?_
        refine zV_aload_n dX7_readItem_30 rfl 0 rfl rfl ?_
        refine zV_getI (x := (nI τ.1)) 19 dX7_readItem_31 rfl fl_RX7_278 rfl (by decide) rfl ((hf25.2 19 (by omega)).trans h19) ?_
        refine zV_iconst (v := (nI 1)) dX7_readItem_34 rfl rfl ?_
        refine zA_isub (z := (nI τ.1 - nI 1)) dX7_readItem_35 rfl  (rfl) ?_
        refine zV_callV (E' := eX7_number (g_rmv 3)) (av := [.int (nI 0), .int (nI τ.1 - nI 1)]) (st := []) (b := 76) dX7_readItem_36 rfl (k_RX7_281 _) rfl ⟨by decide, by decide⟩ ⟨by decide, by decide⟩ (Or.inl rfl) rfl (Nat.le_of_ble_eq_true rfl) rfl rfl rfl (m_numY (x := (nI τ.1 - nI 1)) (hf25.use hr) hk25 ok25 hw25 ⟨hN36.1, (nc_iff hW.1 (by omega)).mpr hN36.2⟩) (fun r36 M36 z => ?_)
        obtain ⟨I36, rfl, rfl, hT36, hF36, hw36⟩ := z
        have hk36 : tkM I36 (nx tp L (nx tp L k)) := hT36
        have ok36 : okT L (nx tp L (nx tp L k)) := nx_ok ok25.2.2.1
        have hf36 := hf25.tr hF36
        have vb36 := ok36.2.2.2
        have sb36 := ok36.1
        show zV G (eX7_readItem (g_rmv 7)) (0, 0) 39 [(0, .ref 76), (1, .int (-1))] [.int (nI ((nx tp L k).2.2.2))] (mm I36 J t) _
        refine zV_istore_n (lv' := [(0, .ref 76), (1, .int (-1)), (2, .int (nI ((nx tp L k).2.2.2)))]) dX7_readItem_39 rfl rfl (by decide) rfl ?_
        refine zV_aload_n dX7_readItem_40 rfl 0 rfl rfl ?_
        refine zV_aload_n dX7_readItem_41 rfl 0 rfl rfl ?_
        refine zV_ldcwS (i := 8) (tx := "to") dX7_readItem_42 rfl (by decide) ?_
        refine zV_callV (E' := eX7_isWord (g_rmv 5)) (av := [.ref (1000 + 8)]) (st := [.ref 76]) (b := 76) dX7_readItem_45 rfl (k_RX7_266 _) rfl ⟨by decide, by decide⟩ ⟨by decide, by decide⟩ (Or.inl rfl) rfl (Nat.le_of_ble_eq_true rfl) rfl rfl rfl (m_isWord (t := 8) (hf36.use hr) hk36 ok36 (by decide)) (fun r45 M45 z => ?_)
        obtain ⟨rfl, rfl⟩ := z
        show zV G (eX7_readItem (g_rmv 7)) (0, 0) 48 [(0, .ref 76), (1, .int (-1)), (2, .int (nI ((nx tp L k).2.2.2)))] [.int (b2 (isW tp (nx tp L (nx tp L k)) 8)), .ref 76] (mm I36 J t) _
        by_cases hB48 : (isW tp (nx tp L (nx tp L k)) 8)
        · skip
          refine zV_callV (E' := eX7_must (g_rmv 2)) (av := [.int (b2 (isW tp (nx tp L (nx tp L k)) 8))]) (st := []) (b := 76) dX7_readItem_48 rfl (k_RX7_259 _) rfl ⟨by decide, by decide⟩ ⟨by decide, by decide⟩ (Or.inl rfl) rfl (Nat.le_of_ble_eq_true rfl) rfl rfl rfl (m_mustY (P := (isW tp (nx tp L (nx tp L k)) 8)) hB48 (hf36.use hr) hk36 ok36 hw36) (fun r48 M48 z => ?_)
          obtain ⟨I48, rfl, rfl, hT48, hF48, hw48⟩ := z
          have hk48 : tkM I48 (nx tp L (nx tp L (nx tp L k))) := hT48
          have ok48 : okT L (nx tp L (nx tp L (nx tp L k))) := nx_ok ok36.2.2.1
          have hf48 := hf36.tr hF48
          have vb48 := ok48.2.2.2
          have sb48 := ok48.1
          show zV G (eX7_readItem (g_rmv 7)) (0, 0) 51 [(0, .ref 76), (1, .int (-1)), (2, .int (nI ((nx tp L k).2.2.2)))] [] (mm I48 J t) _
          refine zV_aload_n dX7_readItem_51 rfl 0 rfl rfl ?_
          refine zV_getI (x := (nI ((nx tp L (nx tp L (nx tp L k))).2.2.2))) 14 dX7_readItem_52 rfl fl_RX7_239 rfl (by decide) rfl hk48.2.2.2 ?_
          refine zV_istore_n (lv' := [(0, .ref 76), (1, .int (-1)), (2, .int (nI ((nx tp L k).2.2.2))), (3, .int (nI ((nx tp L (nx tp L (nx tp L k))).2.2.2)))]) dX7_readItem_55 rfl rfl (by decide) rfl ?_
          refine zV_aload_n dX7_readItem_56 rfl 0 rfl rfl ?_
          refine zV_aload_n dX7_readItem_57 rfl 0 rfl rfl ?_
          refine zV_getI (x := (nI (min (nx tp L (nx tp L (nx tp L k))).1 3))) 13 dX7_readItem_58 rfl fl_RX7_242 rfl (by decide) rfl hk48.2.2.1 ?_
          refine zV_iconst (v := (nI 2)) dX7_readItem_61 rfl rfl ?_
          refine zN_icmp_ne (tgt := 97) dX7_readItem_62 rfl rfl (by omega) (by omega) (fun h62 => ?_) (fun h62 => ?_)
          · skip
            refine zV_iconst (v := (nI 0)) dX7_readItem_97 rfl rfl ?_
            refine zV_callV (E' := eX7_must (g_rmv 2)) (av := [.int (nI 0)]) (st := []) (b := 76) dX7_readItem_98 rfl (k_RX7_259 _) rfl ⟨by decide, by decide⟩ ⟨by decide, by decide⟩ (Or.inl rfl) rfl (Nat.le_of_ble_eq_true rfl) rfl rfl rfl (m_must0 hw48) (fun r98 M98 z => ?_)
            obtain ⟨rfl, rfl⟩ := z
            have hk98 : tkM (up2 I48 76 15 (nI 1)) (nx tp L (nx tp L (nx tp L k))) := hk48.mv (fun j h1 h2 => up2_nk (by omega))
            have hf98 : fr7 I (up2 I48 76 15 (nI 1)) := hf48.up (by decide)
            have hw98 : (up2 I48 76 15 (nI 1)) 76 15 = nI 1 := up2_same _ _ _ _
            show zV G (eX7_readItem (g_rmv 7)) (0, 0) 101 [(0, .ref 76), (1, .int (-1)), (2, .int (nI ((nx tp L k).2.2.2))), (3, .int (nI ((nx tp L (nx tp L (nx tp L k))).2.2.2)))] [] (mm (up2 I48 76 15 (nI 1)) J t) _
            refine zV_aload_n dX7_readItem_101 rfl 0 rfl rfl ?_
            refine zV_getr (q' := 85) 20 dX7_readItem_102 rfl fl_RX7_52 rfl (by decide) rfl rfl ?_
            refine zV_aload_n dX7_readItem_105 rfl 0 rfl rfl ?_
            refine zV_getI (x := (nI 1)) 15 dX7_readItem_106 rfl fl_RX7_252 rfl (by decide) rfl hw98 ?_
            refine zN_if_eq (tgt := 116) dX7_readItem_109 rfl rfl (by decide) (fun z => absurd z (by decide)) (fun _ => ?_)
            refine zV_iconst (v := (nI 0)) dX7_readItem_112 rfl rfl ?_
            refine zV_goto (tgt := 117) dX7_readItem_113 rfl ?_
            refine zV_iload_n dX7_readItem_117 rfl 3 rfl rfl ?_
            refine zV_iastore 0 dX7_readItem_118 rfl rfl rfl (by decide) (by decide)  ?_
            refine zV_aload_n dX7_readItem_119 rfl 0 rfl rfl ?_
            refine zV_bipush (v := (nI 10)) dX7_readItem_120 rfl rfl ?_
            refine zV_iload_n dX7_readItem_122 rfl 2 rfl rfl ?_
            refine zV_iload_n dX7_readItem_123 rfl 3 rfl rfl ?_
            refine zV_iconst (v := (nI 0)) dX7_readItem_124 rfl rfl ?_
            refine zV_iconst (v := (nI 0)) dX7_readItem_125 rfl rfl ?_
            refine zV_callV (E' := eX7_item (g_rmv 0)) (av := [.int (nI 10), .int (nI ((nx tp L k).2.2.2)), .int (nI ((nx tp L (nx tp L (nx tp L k))).2.2.2)), .int (nI 0), .int (nI 0)]) (st := []) (b := 76) dX7_readItem_126 rfl (k_RX7_286 _) rfl ⟨by decide, by decide⟩ ⟨by decide, by decide⟩ (Or.inl rfl) rfl (Nat.le_of_ble_eq_true rfl) rfl rfl rfl (m_item (n := n) (w := 10) (a := (nx tp L k).2.2.2) (b := (nx tp L (nx tp L (nx tp L k))).2.2.2) (c := 0) (d := 0) (by rw [up2_ni (by decide)]; exact (hf98.2 18 (by omega)).trans h18) hn) (fun r126 M126 z => ?_)
            obtain ⟨Iz, rfl, rfl, hz⟩ := z
            show zV G (eX7_readItem (g_rmv 7)) (0, 0) 129 [(0, .ref 76), (1, .int (-1)), (2, .int (nI ((nx tp L k).2.2.2))), (3, .int (nI ((nx tp L (nx tp L (nx tp L k))).2.2.2)))] [] (mm Iz J t) _
            exact zV_return dX7_readItem_129 rfl (⟨Iz, rfl, rfl, rdn_bad (I1 := (up2 I48 76 15 (nI 1))) hf98 hk98 hw98 (fun i h1 => by funext z; exact up2_ni h1) hz (show rItem tp L k τ = (false, (nx tp L (nx tp L (nx tp L k))), τ) from (if_neg h7).trans ((if_pos hB25).trans ((if_pos hN36).trans ((if_pos hB48).trans (if_neg (fun z => h62 (by have := z.1.1; omega)))))))⟩)
          · skip
            refine zV_iload_n dX7_readItem_65 rfl 3 rfl rfl ?_
            refine zV_callS (E' := eX7_isPurse (g_rmv 1)) (av := [.int (nI ((nx tp L (nx tp L (nx tp L k))).2.2.2))]) (st := [.ref 76]) dX7_readItem_66 rfl (k_RX7_76 _) rfl ⟨by decide, by decide⟩ ⟨by decide, by decide⟩ (Or.inl rfl) rfl (Nat.le_of_ble_eq_true rfl) (m_isPurse (x := (nI ((nx tp L (nx tp L (nx tp L k))).2.2.2)))) (fun r66 M66 z => ?_)
            obtain ⟨rfl, rfl⟩ := z
            show zV G (eX7_readItem (g_rmv 7)) (0, 0) 69 [(0, .ref 76), (1, .int (-1)), (2, .int (nI ((nx tp L k).2.2.2))), (3, .int (nI ((nx tp L (nx tp L (nx tp L k))).2.2.2)))] [.int (b2 (inR (nI ((nx tp L (nx tp L (nx tp L k))).2.2.2)) 3)), .ref 76] (mm I48 J t) _
            refine zB_if_eq (tgt := 97) dX7_readItem_69 rfl rfl  (fun h69 => ?_) (fun h69 => ?_)
            · skip
              refine zV_iconst (v := (nI 0)) dX7_readItem_97 rfl rfl ?_
              refine zV_callV (E' := eX7_must (g_rmv 2)) (av := [.int (nI 0)]) (st := []) (b := 76) dX7_readItem_98 rfl (k_RX7_259 _) rfl ⟨by decide, by decide⟩ ⟨by decide, by decide⟩ (Or.inl rfl) rfl (Nat.le_of_ble_eq_true rfl) rfl rfl rfl (m_must0 hw48) (fun r98 M98 z => ?_)
              obtain ⟨rfl, rfl⟩ := z
              have hk98 : tkM (up2 I48 76 15 (nI 1)) (nx tp L (nx tp L (nx tp L k))) := hk48.mv (fun j h1 h2 => up2_nk (by omega))
              have hf98 : fr7 I (up2 I48 76 15 (nI 1)) := hf48.up (by decide)
              have hw98 : (up2 I48 76 15 (nI 1)) 76 15 = nI 1 := up2_same _ _ _ _
              show zV G (eX7_readItem (g_rmv 7)) (0, 0) 101 [(0, .ref 76), (1, .int (-1)), (2, .int (nI ((nx tp L k).2.2.2))), (3, .int (nI ((nx tp L (nx tp L (nx tp L k))).2.2.2)))] [] (mm (up2 I48 76 15 (nI 1)) J t) _
              refine zV_aload_n dX7_readItem_101 rfl 0 rfl rfl ?_
              refine zV_getr (q' := 85) 20 dX7_readItem_102 rfl fl_RX7_52 rfl (by decide) rfl rfl ?_
              refine zV_aload_n dX7_readItem_105 rfl 0 rfl rfl ?_
              refine zV_getI (x := (nI 1)) 15 dX7_readItem_106 rfl fl_RX7_252 rfl (by decide) rfl hw98 ?_
              refine zN_if_eq (tgt := 116) dX7_readItem_109 rfl rfl (by decide) (fun z => absurd z (by decide)) (fun _ => ?_)
              refine zV_iconst (v := (nI 0)) dX7_readItem_112 rfl rfl ?_
              refine zV_goto (tgt := 117) dX7_readItem_113 rfl ?_
              refine zV_iload_n dX7_readItem_117 rfl 3 rfl rfl ?_
              refine zV_iastore 0 dX7_readItem_118 rfl rfl rfl (by decide) (by decide)  ?_
              refine zV_aload_n dX7_readItem_119 rfl 0 rfl rfl ?_
              refine zV_bipush (v := (nI 10)) dX7_readItem_120 rfl rfl ?_
              refine zV_iload_n dX7_readItem_122 rfl 2 rfl rfl ?_
              refine zV_iload_n dX7_readItem_123 rfl 3 rfl rfl ?_
              refine zV_iconst (v := (nI 0)) dX7_readItem_124 rfl rfl ?_
              refine zV_iconst (v := (nI 0)) dX7_readItem_125 rfl rfl ?_
              refine zV_callV (E' := eX7_item (g_rmv 0)) (av := [.int (nI 10), .int (nI ((nx tp L k).2.2.2)), .int (nI ((nx tp L (nx tp L (nx tp L k))).2.2.2)), .int (nI 0), .int (nI 0)]) (st := []) (b := 76) dX7_readItem_126 rfl (k_RX7_286 _) rfl ⟨by decide, by decide⟩ ⟨by decide, by decide⟩ (Or.inl rfl) rfl (Nat.le_of_ble_eq_true rfl) rfl rfl rfl (m_item (n := n) (w := 10) (a := (nx tp L k).2.2.2) (b := (nx tp L (nx tp L (nx tp L k))).2.2.2) (c := 0) (d := 0) (by rw [up2_ni (by decide)]; exact (hf98.2 18 (by omega)).trans h18) hn) (fun r126 M126 z => ?_)
              obtain ⟨Iz, rfl, rfl, hz⟩ := z
              show zV G (eX7_readItem (g_rmv 7)) (0, 0) 129 [(0, .ref 76), (1, .int (-1)), (2, .int (nI ((nx tp L k).2.2.2))), (3, .int (nI ((nx tp L (nx tp L (nx tp L k))).2.2.2)))] [] (mm Iz J t) _
              exact zV_return dX7_readItem_129 rfl (⟨Iz, rfl, rfl, rdn_bad (I1 := (up2 I48 76 15 (nI 1))) hf98 hk98 hw98 (fun i h1 => by funext z; exact up2_ni h1) hz (show rItem tp L k τ = (false, (nx tp L (nx tp L (nx tp L k))), τ) from (if_neg h7).trans ((if_pos hB25).trans ((if_pos hN36).trans ((if_pos hB48).trans (if_neg (fun z => h69 ⟨nI_pos' (by omega), nI_le z.1.2 (by decide)⟩))))))⟩)
            · have hnum : num (nx tp L (nx tp L (nx tp L k))) 3 := ⟨by omega, (nI_leI (by omega) (by decide)).mp h69.2⟩
              refine zV_iload_n dX7_readItem_72 rfl 3 rfl rfl ?_
              refine zV_aload_n dX7_readItem_73 rfl 0 rfl rfl ?_
              refine zV_getr (q' := 85) 20 dX7_readItem_74 rfl fl_RX7_52 rfl (by decide) rfl rfl ?_
              refine zV_aload_n dX7_readItem_77 rfl 0 rfl rfl ?_
              refine zV_getI (x := (nI 0)) 15 dX7_readItem_78 rfl fl_RX7_252 rfl (by decide) rfl hw48 ?_
              refine zN_if_eq (tgt := 88) dX7_readItem_81 rfl rfl (by decide) (fun _ => ?_) (fun z => absurd z (by decide))
              refine zV_iload_n dX7_readItem_88 rfl 2 rfl rfl ?_
              refine zV_iald (x := (nI (τ.2.1 ((nx tp L k).2.2.2) 1))) ((nx tp L k).2.2.2) dX7_readItem_89 rfl rfl rfl (by omega) (by decide) (by rw [hf48.1 85 (by decide)]; exact h85 ((nx tp L k).2.2.2) hN36.2) ?_
              refine zN_icmp_eq (tgt := 97) dX7_readItem_90 rfl rfl (by omega) (by have := (hW.2.1 _ hN36.2).2.1; omega) (fun h90 => ?_) (fun h90 => ?_)
              · skip
                refine zV_iconst (v := (nI 0)) dX7_readItem_97 rfl rfl ?_
                refine zV_callV (E' := eX7_must (g_rmv 2)) (av := [.int (nI 0)]) (st := []) (b := 76) dX7_readItem_98 rfl (k_RX7_259 _) rfl ⟨by decide, by decide⟩ ⟨by decide, by decide⟩ (Or.inl rfl) rfl (Nat.le_of_ble_eq_true rfl) rfl rfl rfl (m_must0 hw48) (fun r98 M98 z => ?_)
                obtain ⟨rfl, rfl⟩ := z
                have hk98 : tkM (up2 I48 76 15 (nI 1)) (nx tp L (nx tp L (nx tp L k))) := hk48.mv (fun j h1 h2 => up2_nk (by omega))
                have hf98 : fr7 I (up2 I48 76 15 (nI 1)) := hf48.up (by decide)
                have hw98 : (up2 I48 76 15 (nI 1)) 76 15 = nI 1 := up2_same _ _ _ _
                show zV G (eX7_readItem (g_rmv 7)) (0, 0) 101 [(0, .ref 76), (1, .int (-1)), (2, .int (nI ((nx tp L k).2.2.2))), (3, .int (nI ((nx tp L (nx tp L (nx tp L k))).2.2.2)))] [] (mm (up2 I48 76 15 (nI 1)) J t) _
                refine zV_aload_n dX7_readItem_101 rfl 0 rfl rfl ?_
                refine zV_getr (q' := 85) 20 dX7_readItem_102 rfl fl_RX7_52 rfl (by decide) rfl rfl ?_
                refine zV_aload_n dX7_readItem_105 rfl 0 rfl rfl ?_
                refine zV_getI (x := (nI 1)) 15 dX7_readItem_106 rfl fl_RX7_252 rfl (by decide) rfl hw98 ?_
                refine zN_if_eq (tgt := 116) dX7_readItem_109 rfl rfl (by decide) (fun z => absurd z (by decide)) (fun _ => ?_)
                refine zV_iconst (v := (nI 0)) dX7_readItem_112 rfl rfl ?_
                refine zV_goto (tgt := 117) dX7_readItem_113 rfl ?_
                refine zV_iload_n dX7_readItem_117 rfl 3 rfl rfl ?_
                refine zV_iastore 0 dX7_readItem_118 rfl rfl rfl (by decide) (by decide)  ?_
                refine zV_aload_n dX7_readItem_119 rfl 0 rfl rfl ?_
                refine zV_bipush (v := (nI 10)) dX7_readItem_120 rfl rfl ?_
                refine zV_iload_n dX7_readItem_122 rfl 2 rfl rfl ?_
                refine zV_iload_n dX7_readItem_123 rfl 3 rfl rfl ?_
                refine zV_iconst (v := (nI 0)) dX7_readItem_124 rfl rfl ?_
                refine zV_iconst (v := (nI 0)) dX7_readItem_125 rfl rfl ?_
                refine zV_callV (E' := eX7_item (g_rmv 0)) (av := [.int (nI 10), .int (nI ((nx tp L k).2.2.2)), .int (nI ((nx tp L (nx tp L (nx tp L k))).2.2.2)), .int (nI 0), .int (nI 0)]) (st := []) (b := 76) dX7_readItem_126 rfl (k_RX7_286 _) rfl ⟨by decide, by decide⟩ ⟨by decide, by decide⟩ (Or.inl rfl) rfl (Nat.le_of_ble_eq_true rfl) rfl rfl rfl (m_item (n := n) (w := 10) (a := (nx tp L k).2.2.2) (b := (nx tp L (nx tp L (nx tp L k))).2.2.2) (c := 0) (d := 0) (by rw [up2_ni (by decide)]; exact (hf98.2 18 (by omega)).trans h18) hn) (fun r126 M126 z => ?_)
                obtain ⟨Iz, rfl, rfl, hz⟩ := z
                show zV G (eX7_readItem (g_rmv 7)) (0, 0) 129 [(0, .ref 76), (1, .int (-1)), (2, .int (nI ((nx tp L k).2.2.2))), (3, .int (nI ((nx tp L (nx tp L (nx tp L k))).2.2.2)))] [] (mm Iz J t) _
                exact zV_return dX7_readItem_129 rfl (⟨Iz, rfl, rfl, rdn_bad (I1 := (up2 I48 76 15 (nI 1))) hf98 hk98 hw98 (fun i h1 => by funext z; exact up2_ni h1) hz (show rItem tp L k τ = (false, (nx tp L (nx tp L (nx tp L k))), τ) from (if_neg h7).trans ((if_pos hB25).trans ((if_pos hN36).trans ((if_pos hB48).trans (if_neg (fun z => z.2 h90))))))⟩)
              · skip
                refine zV_iconst (v := (nI 1)) dX7_readItem_93 rfl rfl ?_
                refine zV_goto (tgt := 98) dX7_readItem_94 rfl ?_
                refine zV_callV (E' := eX7_must (g_rmv 2)) (av := [.int (nI 1)]) (st := []) (b := 76) dX7_readItem_98 rfl (k_RX7_259 _) rfl ⟨by decide, by decide⟩ ⟨by decide, by decide⟩ (Or.inl rfl) rfl (Nat.le_of_ble_eq_true rfl) rfl rfl rfl (m_must1 (hf48.use hr) hk48 ok48 hw48) (fun r98 M98 z => ?_)
                obtain ⟨I98, rfl, rfl, hT98, hF98, hw98⟩ := z
                have hk98 : tkM I98 (nx tp L (nx tp L (nx tp L (nx tp L k)))) := hT98
                have ok98 : okT L (nx tp L (nx tp L (nx tp L (nx tp L k)))) := nx_ok ok48.2.2.1
                have hf98 := hf48.tr hF98
                have vb98 := ok98.2.2.2
                have sb98 := ok98.1
                show zV G (eX7_readItem (g_rmv 7)) (0, 0) 101 [(0, .ref 76), (1, .int (-1)), (2, .int (nI ((nx tp L k).2.2.2))), (3, .int (nI ((nx tp L (nx tp L (nx tp L k))).2.2.2)))] [] (mm I98 J t) _
                refine zV_aload_n dX7_readItem_101 rfl 0 rfl rfl ?_
                refine zV_getr (q' := 85) 20 dX7_readItem_102 rfl fl_RX7_52 rfl (by decide) rfl rfl ?_
                refine zV_aload_n dX7_readItem_105 rfl 0 rfl rfl ?_
                refine zV_getI (x := (nI 0)) 15 dX7_readItem_106 rfl fl_RX7_252 rfl (by decide) rfl hw98 ?_
                refine zN_if_eq (tgt := 116) dX7_readItem_109 rfl rfl (by decide) (fun _ => ?_) (fun z => absurd z (by decide))
                refine zV_iload_n dX7_readItem_116 rfl 2 rfl rfl ?_
                refine zV_iload_n dX7_readItem_117 rfl 3 rfl rfl ?_
                refine zV_iastore ((nx tp L k).2.2.2) dX7_readItem_118 rfl rfl rfl (by omega) (by decide)  ?_
                refine zV_aload_n dX7_readItem_119 rfl 0 rfl rfl ?_
                refine zV_bipush (v := (nI 10)) dX7_readItem_120 rfl rfl ?_
                refine zV_iload_n dX7_readItem_122 rfl 2 rfl rfl ?_
                refine zV_iload_n dX7_readItem_123 rfl 3 rfl rfl ?_
                refine zV_iconst (v := (nI 0)) dX7_readItem_124 rfl rfl ?_
                refine zV_iconst (v := (nI 0)) dX7_readItem_125 rfl rfl ?_
                refine zV_callV (E' := eX7_item (g_rmv 0)) (av := [.int (nI 10), .int (nI ((nx tp L k).2.2.2)), .int (nI ((nx tp L (nx tp L (nx tp L k))).2.2.2)), .int (nI 0), .int (nI 0)]) (st := []) (b := 76) dX7_readItem_126 rfl (k_RX7_286 _) rfl ⟨by decide, by decide⟩ ⟨by decide, by decide⟩ (Or.inl rfl) rfl (Nat.le_of_ble_eq_true rfl) rfl rfl rfl (m_item (n := n) (w := 10) (a := (nx tp L k).2.2.2) (b := (nx tp L (nx tp L (nx tp L k))).2.2.2) (c := 0) (d := 0) (by rw [up2_ni (by decide)]; exact (hf98.2 18 (by omega)).trans h18) hn) (fun r126 M126 z => ?_)
                obtain ⟨Iz, rfl, rfl, hz⟩ := z
                show zV G (eX7_readItem (g_rmv 7)) (0, 0) 129 [(0, .ref 76), (1, .int (-1)), (2, .int (nI ((nx tp L k).2.2.2))), (3, .int (nI ((nx tp L (nx tp L (nx tp L k))).2.2.2)))] [] (mm Iz J t) _
                exact zV_return dX7_readItem_129 rfl (⟨Iz, rfl, rfl, rdn_good (I1 := I98) (τ' := (ld_cset τ (nx tp L k).2.2.2 (k_set (k_turn (τ.2.1 (nx tp L k).2.2.2)) 1 (nx tp L (nx tp L (nx tp L k))).2.2.2))) hf98 hk98 hw98 (fun i h1 h2 => by funext z; exact up2_ni h1) (fun j hj => by rw [up2_ni (by decide)]) hz (show rItem tp L k τ = (true, (nx tp L (nx tp L (nx tp L (nx tp L k)))), (ld_cset τ (nx tp L k).2.2.2 (k_set (k_turn (τ.2.1 (nx tp L k).2.2.2)) 1 (nx tp L (nx tp L (nx tp L k))).2.2.2))) from (if_neg h7).trans ((if_pos hB25).trans ((if_pos hN36).trans ((if_pos hB48).trans (if_pos ⟨hnum, h90⟩))))) (show ap1 (eF 10 (nx tp L k).2.2.2 (nx tp L (nx tp L (nx tp L k))).2.2.2 0 0) τ = (ld_cset τ (nx tp L k).2.2.2 (k_set (k_turn (τ.2.1 (nx tp L k).2.2.2)) 1 (nx tp L (nx tp L (nx tp L k))).2.2.2)) from if_pos rfl) (by unfold okE; rw [if_pos (show (eF 10 (nx tp L k).2.2.2 (nx tp L (nx tp L (nx tp L k))).2.2.2 0 0) 0 = 10 from rfl)]; exact ⟨(show 10 ≤ 10 by decide), hN36.2, (show (nx tp L (nx tp L (nx tp L k))).2.2.2 < 4 by have := hnum.2; omega)⟩) (by rw [up2_ni (by decide)]; exact (hf98.2 19 (by omega)).trans h19) (fun c hc => by
                    show _ = nI ((if c = (nx tp L k).2.2.2 then k_set (k_turn (τ.2.1 (nx tp L k).2.2.2)) 1 (nx tp L (nx tp L (nx tp L k))).2.2.2 else τ.2.1 c) 1)
                    by_cases ec : c = (nx tp L k).2.2.2
                    · rw [if_pos ec, ec, up2_same]; rfl
                    · rw [if_neg ec, up2_nk ec, hf98.1 85 (by decide)]; exact h85 c hc)⟩)
        · skip
          refine zV_callV (E' := eX7_must (g_rmv 2)) (av := [.int (b2 (isW tp (nx tp L (nx tp L k)) 8))]) (st := []) (b := 76) dX7_readItem_48 rfl (k_RX7_259 _) rfl ⟨by decide, by decide⟩ ⟨by decide, by decide⟩ (Or.inl rfl) rfl (Nat.le_of_ble_eq_true rfl) rfl rfl rfl (m_mustN (P := (isW tp (nx tp L (nx tp L k)) 8)) hB48 hw36) (fun r48 M48 z => ?_)
          obtain ⟨rfl, rfl⟩ := z
          have hk48 : tkM (up2 I36 76 15 (nI 1)) (nx tp L (nx tp L k)) := hk36.mv (fun j h1 h2 => up2_nk (by omega))
          have hf48 : fr7 I (up2 I36 76 15 (nI 1)) := hf36.up (by decide)
          have hw48 : (up2 I36 76 15 (nI 1)) 76 15 = nI 1 := up2_same _ _ _ _
          show zV G (eX7_readItem (g_rmv 7)) (0, 0) 51 [(0, .ref 76), (1, .int (-1)), (2, .int (nI ((nx tp L k).2.2.2)))] [] (mm (up2 I36 76 15 (nI 1)) J t) _
          refine zV_aload_n dX7_readItem_51 rfl 0 rfl rfl ?_
          refine zV_getI (x := (nI ((nx tp L (nx tp L k)).2.2.2))) 14 dX7_readItem_52 rfl fl_RX7_239 rfl (by decide) rfl hk48.2.2.2 ?_
          refine zV_istore_n (lv' := [(0, .ref 76), (1, .int (-1)), (2, .int (nI ((nx tp L k).2.2.2))), (3, .int (nI ((nx tp L (nx tp L k)).2.2.2)))]) dX7_readItem_55 rfl rfl (by decide) rfl ?_
          refine zV_aload_n dX7_readItem_56 rfl 0 rfl rfl ?_
          refine zV_aload_n dX7_readItem_57 rfl 0 rfl rfl ?_
          refine zV_getI (x := (nI (min (nx tp L (nx tp L k)).1 3))) 13 dX7_readItem_58 rfl fl_RX7_242 rfl (by decide) rfl hk48.2.2.1 ?_
          refine zV_iconst (v := (nI 2)) dX7_readItem_61 rfl rfl ?_
          refine zN_icmp_ne (tgt := 97) dX7_readItem_62 rfl rfl (by omega) (by omega) (fun h62 => ?_) (fun h62 => ?_)
          · skip
            refine zV_iconst (v := (nI 0)) dX7_readItem_97 rfl rfl ?_
            refine zV_callV (E' := eX7_must (g_rmv 2)) (av := [.int (nI 0)]) (st := []) (b := 76) dX7_readItem_98 rfl (k_RX7_259 _) rfl ⟨by decide, by decide⟩ ⟨by decide, by decide⟩ (Or.inl rfl) rfl (Nat.le_of_ble_eq_true rfl) rfl rfl rfl (m_mustw (x := (nI 0)) hw48) (fun r98 M98 z => ?_)
            obtain ⟨rfl, rfl⟩ := z
            have hk98 : tkM (up2 (up2 I36 76 15 (nI 1)) 76 15 (nI 1)) (nx tp L (nx tp L k)) := hk48.mv (fun j h1 h2 => up2_nk (by omega))
            have hf98 : fr7 I (up2 (up2 I36 76 15 (nI 1)) 76 15 (nI 1)) := hf48.up (by decide)
            have hw98 : (up2 (up2 I36 76 15 (nI 1)) 76 15 (nI 1)) 76 15 = nI 1 := up2_same _ _ _ _
            show zV G (eX7_readItem (g_rmv 7)) (0, 0) 101 [(0, .ref 76), (1, .int (-1)), (2, .int (nI ((nx tp L k).2.2.2))), (3, .int (nI ((nx tp L (nx tp L k)).2.2.2)))] [] (mm (up2 (up2 I36 76 15 (nI 1)) 76 15 (nI 1)) J t) _
            refine zV_aload_n dX7_readItem_101 rfl 0 rfl rfl ?_
            refine zV_getr (q' := 85) 20 dX7_readItem_102 rfl fl_RX7_52 rfl (by decide) rfl rfl ?_
            refine zV_aload_n dX7_readItem_105 rfl 0 rfl rfl ?_
            refine zV_getI (x := (nI 1)) 15 dX7_readItem_106 rfl fl_RX7_252 rfl (by decide) rfl hw98 ?_
            refine zN_if_eq (tgt := 116) dX7_readItem_109 rfl rfl (by decide) (fun z => absurd z (by decide)) (fun _ => ?_)
            refine zV_iconst (v := (nI 0)) dX7_readItem_112 rfl rfl ?_
            refine zV_goto (tgt := 117) dX7_readItem_113 rfl ?_
            refine zV_iload_n dX7_readItem_117 rfl 3 rfl rfl ?_
            refine zV_iastore 0 dX7_readItem_118 rfl rfl rfl (by decide) (by decide)  ?_
            refine zV_aload_n dX7_readItem_119 rfl 0 rfl rfl ?_
            refine zV_bipush (v := (nI 10)) dX7_readItem_120 rfl rfl ?_
            refine zV_iload_n dX7_readItem_122 rfl 2 rfl rfl ?_
            refine zV_iload_n dX7_readItem_123 rfl 3 rfl rfl ?_
            refine zV_iconst (v := (nI 0)) dX7_readItem_124 rfl rfl ?_
            refine zV_iconst (v := (nI 0)) dX7_readItem_125 rfl rfl ?_
            refine zV_callV (E' := eX7_item (g_rmv 0)) (av := [.int (nI 10), .int (nI ((nx tp L k).2.2.2)), .int (nI ((nx tp L (nx tp L k)).2.2.2)), .int (nI 0), .int (nI 0)]) (st := []) (b := 76) dX7_readItem_126 rfl (k_RX7_286 _) rfl ⟨by decide, by decide⟩ ⟨by decide, by decide⟩ (Or.inl rfl) rfl (Nat.le_of_ble_eq_true rfl) rfl rfl rfl (m_item (n := n) (w := 10) (a := (nx tp L k).2.2.2) (b := (nx tp L (nx tp L k)).2.2.2) (c := 0) (d := 0) (by rw [up2_ni (by decide)]; exact (hf98.2 18 (by omega)).trans h18) hn) (fun r126 M126 z => ?_)
            obtain ⟨Iz, rfl, rfl, hz⟩ := z
            show zV G (eX7_readItem (g_rmv 7)) (0, 0) 129 [(0, .ref 76), (1, .int (-1)), (2, .int (nI ((nx tp L k).2.2.2))), (3, .int (nI ((nx tp L (nx tp L k)).2.2.2)))] [] (mm Iz J t) _
            exact zV_return dX7_readItem_129 rfl (⟨Iz, rfl, rfl, rdn_bad (I1 := (up2 (up2 I36 76 15 (nI 1)) 76 15 (nI 1))) hf98 hk98 hw98 (fun i h1 => by funext z; exact up2_ni h1) hz (show rItem tp L k τ = (false, (nx tp L (nx tp L k)), τ) from (if_neg h7).trans ((if_pos hB25).trans ((if_pos hN36).trans (if_neg hB48))))⟩)
          · skip
            refine zV_iload_n dX7_readItem_65 rfl 3 rfl rfl ?_
            refine zV_callS (E' := eX7_isPurse (g_rmv 1)) (av := [.int (nI ((nx tp L (nx tp L k)).2.2.2))]) (st := [.ref 76]) dX7_readItem_66 rfl (k_RX7_76 _) rfl ⟨by decide, by decide⟩ ⟨by decide, by decide⟩ (Or.inl rfl) rfl (Nat.le_of_ble_eq_true rfl) (m_isPurse (x := (nI ((nx tp L (nx tp L k)).2.2.2)))) (fun r66 M66 z => ?_)
            obtain ⟨rfl, rfl⟩ := z
            show zV G (eX7_readItem (g_rmv 7)) (0, 0) 69 [(0, .ref 76), (1, .int (-1)), (2, .int (nI ((nx tp L k).2.2.2))), (3, .int (nI ((nx tp L (nx tp L k)).2.2.2)))] [.int (b2 (inR (nI ((nx tp L (nx tp L k)).2.2.2)) 3)), .ref 76] (mm (up2 I36 76 15 (nI 1)) J t) _
            refine zB_if_eq (tgt := 97) dX7_readItem_69 rfl rfl  (fun h69 => ?_) (fun h69 => ?_)
            · skip
              refine zV_iconst (v := (nI 0)) dX7_readItem_97 rfl rfl ?_
              refine zV_callV (E' := eX7_must (g_rmv 2)) (av := [.int (nI 0)]) (st := []) (b := 76) dX7_readItem_98 rfl (k_RX7_259 _) rfl ⟨by decide, by decide⟩ ⟨by decide, by decide⟩ (Or.inl rfl) rfl (Nat.le_of_ble_eq_true rfl) rfl rfl rfl (m_mustw (x := (nI 0)) hw48) (fun r98 M98 z => ?_)
              obtain ⟨rfl, rfl⟩ := z
              have hk98 : tkM (up2 (up2 I36 76 15 (nI 1)) 76 15 (nI 1)) (nx tp L (nx tp L k)) := hk48.mv (fun j h1 h2 => up2_nk (by omega))
              have hf98 : fr7 I (up2 (up2 I36 76 15 (nI 1)) 76 15 (nI 1)) := hf48.up (by decide)
              have hw98 : (up2 (up2 I36 76 15 (nI 1)) 76 15 (nI 1)) 76 15 = nI 1 := up2_same _ _ _ _
              show zV G (eX7_readItem (g_rmv 7)) (0, 0) 101 [(0, .ref 76), (1, .int (-1)), (2, .int (nI ((nx tp L k).2.2.2))), (3, .int (nI ((nx tp L (nx tp L k)).2.2.2)))] [] (mm (up2 (up2 I36 76 15 (nI 1)) 76 15 (nI 1)) J t) _
              refine zV_aload_n dX7_readItem_101 rfl 0 rfl rfl ?_
              refine zV_getr (q' := 85) 20 dX7_readItem_102 rfl fl_RX7_52 rfl (by decide) rfl rfl ?_
              refine zV_aload_n dX7_readItem_105 rfl 0 rfl rfl ?_
              refine zV_getI (x := (nI 1)) 15 dX7_readItem_106 rfl fl_RX7_252 rfl (by decide) rfl hw98 ?_
              refine zN_if_eq (tgt := 116) dX7_readItem_109 rfl rfl (by decide) (fun z => absurd z (by decide)) (fun _ => ?_)
              refine zV_iconst (v := (nI 0)) dX7_readItem_112 rfl rfl ?_
              refine zV_goto (tgt := 117) dX7_readItem_113 rfl ?_
              refine zV_iload_n dX7_readItem_117 rfl 3 rfl rfl ?_
              refine zV_iastore 0 dX7_readItem_118 rfl rfl rfl (by decide) (by decide)  ?_
              refine zV_aload_n dX7_readItem_119 rfl 0 rfl rfl ?_
              refine zV_bipush (v := (nI 10)) dX7_readItem_120 rfl rfl ?_
              refine zV_iload_n dX7_readItem_122 rfl 2 rfl rfl ?_
              refine zV_iload_n dX7_readItem_123 rfl 3 rfl rfl ?_
              refine zV_iconst (v := (nI 0)) dX7_readItem_124 rfl rfl ?_
              refine zV_iconst (v := (nI 0)) dX7_readItem_125 rfl rfl ?_
              refine zV_callV (E' := eX7_item (g_rmv 0)) (av := [.int (nI 10), .int (nI ((nx tp L k).2.2.2)), .int (nI ((nx tp L (nx tp L k)).2.2.2)), .int (nI 0), .int (nI 0)]) (st := []) (b := 76) dX7_readItem_126 rfl (k_RX7_286 _) rfl ⟨by decide, by decide⟩ ⟨by decide, by decide⟩ (Or.inl rfl) rfl (Nat.le_of_ble_eq_true rfl) rfl rfl rfl (m_item (n := n) (w := 10) (a := (nx tp L k).2.2.2) (b := (nx tp L (nx tp L k)).2.2.2) (c := 0) (d := 0) (by rw [up2_ni (by decide)]; exact (hf98.2 18 (by omega)).trans h18) hn) (fun r126 M126 z => ?_)
              obtain ⟨Iz, rfl, rfl, hz⟩ := z
              show zV G (eX7_readItem (g_rmv 7)) (0, 0) 129 [(0, .ref 76), (1, .int (-1)), (2, .int (nI ((nx tp L k).2.2.2))), (3, .int (nI ((nx tp L (nx tp L k)).2.2.2)))] [] (mm Iz J t) _
              exact zV_return dX7_readItem_129 rfl (⟨Iz, rfl, rfl, rdn_bad (I1 := (up2 (up2 I36 76 15 (nI 1)) 76 15 (nI 1))) hf98 hk98 hw98 (fun i h1 => by funext z; exact up2_ni h1) hz (show rItem tp L k τ = (false, (nx tp L (nx tp L k)), τ) from (if_neg h7).trans ((if_pos hB25).trans ((if_pos hN36).trans (if_neg hB48))))⟩)
            · skip
              refine zV_iload_n dX7_readItem_72 rfl 3 rfl rfl ?_
              refine zV_aload_n dX7_readItem_73 rfl 0 rfl rfl ?_
              refine zV_getr (q' := 85) 20 dX7_readItem_74 rfl fl_RX7_52 rfl (by decide) rfl rfl ?_
              refine zV_aload_n dX7_readItem_77 rfl 0 rfl rfl ?_
              refine zV_getI (x := (nI 1)) 15 dX7_readItem_78 rfl fl_RX7_252 rfl (by decide) rfl hw48 ?_
              refine zN_if_eq (tgt := 88) dX7_readItem_81 rfl rfl (by decide) (fun z => absurd z (by decide)) (fun _ => ?_)
              refine zV_iconst (v := (nI 0)) dX7_readItem_84 rfl rfl ?_
              refine zV_goto (tgt := 89) dX7_readItem_85 rfl ?_
              refine zV_iald (x := ((up2 I36 76 15 (nI 1)) 85 0)) 0 dX7_readItem_89 rfl rfl rfl (by decide) (by decide) rfl ?_
              refine zV_icmp_eq (tgt := 97) dX7_readItem_90 rfl rfl  (fun h90 => ?_) (fun h90 => ?_)
              · skip
                refine zV_iconst (v := (nI 0)) dX7_readItem_97 rfl rfl ?_
                refine zV_callV (E' := eX7_must (g_rmv 2)) (av := [.int (nI 0)]) (st := []) (b := 76) dX7_readItem_98 rfl (k_RX7_259 _) rfl ⟨by decide, by decide⟩ ⟨by decide, by decide⟩ (Or.inl rfl) rfl (Nat.le_of_ble_eq_true rfl) rfl rfl rfl (m_mustw (x := (nI 0)) hw48) (fun r98 M98 z => ?_)
                obtain ⟨rfl, rfl⟩ := z
                have hk98 : tkM (up2 (up2 I36 76 15 (nI 1)) 76 15 (nI 1)) (nx tp L (nx tp L k)) := hk48.mv (fun j h1 h2 => up2_nk (by omega))
                have hf98 : fr7 I (up2 (up2 I36 76 15 (nI 1)) 76 15 (nI 1)) := hf48.up (by decide)
                have hw98 : (up2 (up2 I36 76 15 (nI 1)) 76 15 (nI 1)) 76 15 = nI 1 := up2_same _ _ _ _
                show zV G (eX7_readItem (g_rmv 7)) (0, 0) 101 [(0, .ref 76), (1, .int (-1)), (2, .int (nI ((nx tp L k).2.2.2))), (3, .int (nI ((nx tp L (nx tp L k)).2.2.2)))] [] (mm (up2 (up2 I36 76 15 (nI 1)) 76 15 (nI 1)) J t) _
                refine zV_aload_n dX7_readItem_101 rfl 0 rfl rfl ?_
                refine zV_getr (q' := 85) 20 dX7_readItem_102 rfl fl_RX7_52 rfl (by decide) rfl rfl ?_
                refine zV_aload_n dX7_readItem_105 rfl 0 rfl rfl ?_
                refine zV_getI (x := (nI 1)) 15 dX7_readItem_106 rfl fl_RX7_252 rfl (by decide) rfl hw98 ?_
                refine zN_if_eq (tgt := 116) dX7_readItem_109 rfl rfl (by decide) (fun z => absurd z (by decide)) (fun _ => ?_)
                refine zV_iconst (v := (nI 0)) dX7_readItem_112 rfl rfl ?_
                refine zV_goto (tgt := 117) dX7_readItem_113 rfl ?_
                refine zV_iload_n dX7_readItem_117 rfl 3 rfl rfl ?_
                refine zV_iastore 0 dX7_readItem_118 rfl rfl rfl (by decide) (by decide)  ?_
                refine zV_aload_n dX7_readItem_119 rfl 0 rfl rfl ?_
                refine zV_bipush (v := (nI 10)) dX7_readItem_120 rfl rfl ?_
                refine zV_iload_n dX7_readItem_122 rfl 2 rfl rfl ?_
                refine zV_iload_n dX7_readItem_123 rfl 3 rfl rfl ?_
                refine zV_iconst (v := (nI 0)) dX7_readItem_124 rfl rfl ?_
                refine zV_iconst (v := (nI 0)) dX7_readItem_125 rfl rfl ?_
                refine zV_callV (E' := eX7_item (g_rmv 0)) (av := [.int (nI 10), .int (nI ((nx tp L k).2.2.2)), .int (nI ((nx tp L (nx tp L k)).2.2.2)), .int (nI 0), .int (nI 0)]) (st := []) (b := 76) dX7_readItem_126 rfl (k_RX7_286 _) rfl ⟨by decide, by decide⟩ ⟨by decide, by decide⟩ (Or.inl rfl) rfl (Nat.le_of_ble_eq_true rfl) rfl rfl rfl (m_item (n := n) (w := 10) (a := (nx tp L k).2.2.2) (b := (nx tp L (nx tp L k)).2.2.2) (c := 0) (d := 0) (by rw [up2_ni (by decide)]; exact (hf98.2 18 (by omega)).trans h18) hn) (fun r126 M126 z => ?_)
                obtain ⟨Iz, rfl, rfl, hz⟩ := z
                show zV G (eX7_readItem (g_rmv 7)) (0, 0) 129 [(0, .ref 76), (1, .int (-1)), (2, .int (nI ((nx tp L k).2.2.2))), (3, .int (nI ((nx tp L (nx tp L k)).2.2.2)))] [] (mm Iz J t) _
                exact zV_return dX7_readItem_129 rfl (⟨Iz, rfl, rfl, rdn_bad (I1 := (up2 (up2 I36 76 15 (nI 1)) 76 15 (nI 1))) hf98 hk98 hw98 (fun i h1 => by funext z; exact up2_ni h1) hz (show rItem tp L k τ = (false, (nx tp L (nx tp L k)), τ) from (if_neg h7).trans ((if_pos hB25).trans ((if_pos hN36).trans (if_neg hB48))))⟩)
              · skip
                refine zV_iconst (v := (nI 1)) dX7_readItem_93 rfl rfl ?_
                refine zV_goto (tgt := 98) dX7_readItem_94 rfl ?_
                refine zV_callV (E' := eX7_must (g_rmv 2)) (av := [.int (nI 1)]) (st := []) (b := 76) dX7_readItem_98 rfl (k_RX7_259 _) rfl ⟨by decide, by decide⟩ ⟨by decide, by decide⟩ (Or.inl rfl) rfl (Nat.le_of_ble_eq_true rfl) rfl rfl rfl (m_mustw (x := (nI 1)) hw48) (fun r98 M98 z => ?_)
                obtain ⟨rfl, rfl⟩ := z
                have hk98 : tkM (up2 (up2 I36 76 15 (nI 1)) 76 15 (nI 1)) (nx tp L (nx tp L k)) := hk48.mv (fun j h1 h2 => up2_nk (by omega))
                have hf98 : fr7 I (up2 (up2 I36 76 15 (nI 1)) 76 15 (nI 1)) := hf48.up (by decide)
                have hw98 : (up2 (up2 I36 76 15 (nI 1)) 76 15 (nI 1)) 76 15 = nI 1 := up2_same _ _ _ _
                show zV G (eX7_readItem (g_rmv 7)) (0, 0) 101 [(0, .ref 76), (1, .int (-1)), (2, .int (nI ((nx tp L k).2.2.2))), (3, .int (nI ((nx tp L (nx tp L k)).2.2.2)))] [] (mm (up2 (up2 I36 76 15 (nI 1)) 76 15 (nI 1)) J t) _
                refine zV_aload_n dX7_readItem_101 rfl 0 rfl rfl ?_
                refine zV_getr (q' := 85) 20 dX7_readItem_102 rfl fl_RX7_52 rfl (by decide) rfl rfl ?_
                refine zV_aload_n dX7_readItem_105 rfl 0 rfl rfl ?_
                refine zV_getI (x := (nI 1)) 15 dX7_readItem_106 rfl fl_RX7_252 rfl (by decide) rfl hw98 ?_
                refine zN_if_eq (tgt := 116) dX7_readItem_109 rfl rfl (by decide) (fun z => absurd z (by decide)) (fun _ => ?_)
                refine zV_iconst (v := (nI 0)) dX7_readItem_112 rfl rfl ?_
                refine zV_goto (tgt := 117) dX7_readItem_113 rfl ?_
                refine zV_iload_n dX7_readItem_117 rfl 3 rfl rfl ?_
                refine zV_iastore 0 dX7_readItem_118 rfl rfl rfl (by decide) (by decide)  ?_
                refine zV_aload_n dX7_readItem_119 rfl 0 rfl rfl ?_
                refine zV_bipush (v := (nI 10)) dX7_readItem_120 rfl rfl ?_
                refine zV_iload_n dX7_readItem_122 rfl 2 rfl rfl ?_
                refine zV_iload_n dX7_readItem_123 rfl 3 rfl rfl ?_
                refine zV_iconst (v := (nI 0)) dX7_readItem_124 rfl rfl ?_
                refine zV_iconst (v := (nI 0)) dX7_readItem_125 rfl rfl ?_
                refine zV_callV (E' := eX7_item (g_rmv 0)) (av := [.int (nI 10), .int (nI ((nx tp L k).2.2.2)), .int (nI ((nx tp L (nx tp L k)).2.2.2)), .int (nI 0), .int (nI 0)]) (st := []) (b := 76) dX7_readItem_126 rfl (k_RX7_286 _) rfl ⟨by decide, by decide⟩ ⟨by decide, by decide⟩ (Or.inl rfl) rfl (Nat.le_of_ble_eq_true rfl) rfl rfl rfl (m_item (n := n) (w := 10) (a := (nx tp L k).2.2.2) (b := (nx tp L (nx tp L k)).2.2.2) (c := 0) (d := 0) (by rw [up2_ni (by decide)]; exact (hf98.2 18 (by omega)).trans h18) hn) (fun r126 M126 z => ?_)
                obtain ⟨Iz, rfl, rfl, hz⟩ := z
                show zV G (eX7_readItem (g_rmv 7)) (0, 0) 129 [(0, .ref 76), (1, .int (-1)), (2, .int (nI ((nx tp L k).2.2.2))), (3, .int (nI ((nx tp L (nx tp L k)).2.2.2)))] [] (mm Iz J t) _
                exact zV_return dX7_readItem_129 rfl (⟨Iz, rfl, rfl, rdn_bad (I1 := (up2 (up2 I36 76 15 (nI 1)) 76 15 (nI 1))) hf98 hk98 hw98 (fun i h1 => by funext z; exact up2_ni h1) hz (show rItem tp L k τ = (false, (nx tp L (nx tp L k)), τ) from (if_neg h7).trans ((if_pos hB25).trans ((if_pos hN36).trans (if_neg hB48))))⟩)
      · skip
        refine zV_aload_n dX7_readItem_28 rfl 0 rfl rfl ?_
        refine zV_iconst (v := (nI 0)) dX7_readItem_29 rfl rfl ?_
        refine zV_aload_n dX7_readItem_30 rfl 0 rfl rfl ?_
        refine zV_getI (x := (nI τ.1)) 19 dX7_readItem_31 rfl fl_RX7_278 rfl (by decide) rfl ((hf25.2 19 (by omega)).trans h19) ?_
        refine zV_iconst (v := (nI 1)) dX7_readItem_34 rfl rfl ?_
        refine zA_isub (z := (nI τ.1 - nI 1)) dX7_readItem_35 rfl  (rfl) ?_
        refine zV_callV (E' := eX7_number (g_rmv 3)) (av := [.int (nI 0), .int (nI τ.1 - nI 1)]) (st := []) (b := 76) dX7_readItem_36 rfl (k_RX7_281 _) rfl ⟨by decide, by decide⟩ ⟨by decide, by decide⟩ (Or.inl rfl) rfl (Nat.le_of_ble_eq_true rfl) rfl rfl rfl (m_numN (x := (nI τ.1 - nI 1)) (hf25.use hr) hk25 ok25 hw25 (fun z => hN36 ⟨z.1, (nc_iff hW.1 (by omega)).mp z.2⟩)) (fun r36 M36 z => ?_)
        obtain ⟨rfl, rfl⟩ := z
        have hk36 : tkM (up2 I25 76 15 (nI 1)) (nx tp L k) := hk25.mv (fun j h1 h2 => up2_nk (by omega))
        have hf36 : fr7 I (up2 I25 76 15 (nI 1)) := hf25.up (by decide)
        have hw36 : (up2 I25 76 15 (nI 1)) 76 15 = nI 1 := up2_same _ _ _ _
        show zV G (eX7_readItem (g_rmv 7)) (0, 0) 39 [(0, .ref 76), (1, .int (-1))] [.int (nI ((nx tp L k).2.2.2))] (mm (up2 I25 76 15 (nI 1)) J t) _
        refine zV_istore_n (lv' := [(0, .ref 76), (1, .int (-1)), (2, .int (nI ((nx tp L k).2.2.2)))]) dX7_readItem_39 rfl rfl (by decide) rfl ?_
        refine zV_aload_n dX7_readItem_40 rfl 0 rfl rfl ?_
        refine zV_aload_n dX7_readItem_41 rfl 0 rfl rfl ?_
        refine zV_ldcwS (i := 8) (tx := "to") dX7_readItem_42 rfl (by decide) ?_
        refine zV_callV (E' := eX7_isWord (g_rmv 5)) (av := [.ref (1000 + 8)]) (st := [.ref 76]) (b := 76) dX7_readItem_45 rfl (k_RX7_266 _) rfl ⟨by decide, by decide⟩ ⟨by decide, by decide⟩ (Or.inl rfl) rfl (Nat.le_of_ble_eq_true rfl) rfl rfl rfl (m_isWord (t := 8) (hf36.use hr) hk36 ok25 (by decide)) (fun r45 M45 z => ?_)
        obtain ⟨rfl, rfl⟩ := z
        show zV G (eX7_readItem (g_rmv 7)) (0, 0) 48 [(0, .ref 76), (1, .int (-1)), (2, .int (nI ((nx tp L k).2.2.2)))] [.int (b2 (isW tp (nx tp L k) 8)), .ref 76] (mm (up2 I25 76 15 (nI 1)) J t) _
        refine zV_callV (E' := eX7_must (g_rmv 2)) (av := [.int (b2 (isW tp (nx tp L k) 8))]) (st := []) (b := 76) dX7_readItem_48 rfl (k_RX7_259 _) rfl ⟨by decide, by decide⟩ ⟨by decide, by decide⟩ (Or.inl rfl) rfl (Nat.le_of_ble_eq_true rfl) rfl rfl rfl (m_mustw (x := (b2 (isW tp (nx tp L k) 8))) hw36) (fun r48 M48 z => ?_)
        obtain ⟨rfl, rfl⟩ := z
        have hk48 : tkM (up2 (up2 I25 76 15 (nI 1)) 76 15 (nI 1)) (nx tp L k) := hk36.mv (fun j h1 h2 => up2_nk (by omega))
        have hf48 : fr7 I (up2 (up2 I25 76 15 (nI 1)) 76 15 (nI 1)) := hf36.up (by decide)
        have hw48 : (up2 (up2 I25 76 15 (nI 1)) 76 15 (nI 1)) 76 15 = nI 1 := up2_same _ _ _ _
        show zV G (eX7_readItem (g_rmv 7)) (0, 0) 51 [(0, .ref 76), (1, .int (-1)), (2, .int (nI ((nx tp L k).2.2.2)))] [] (mm (up2 (up2 I25 76 15 (nI 1)) 76 15 (nI 1)) J t) _
        refine zV_aload_n dX7_readItem_51 rfl 0 rfl rfl ?_
        refine zV_getI (x := (nI ((nx tp L k).2.2.2))) 14 dX7_readItem_52 rfl fl_RX7_239 rfl (by decide) rfl hk48.2.2.2 ?_
        refine zV_istore_n (lv' := [(0, .ref 76), (1, .int (-1)), (2, .int (nI ((nx tp L k).2.2.2))), (3, .int (nI ((nx tp L k).2.2.2)))]) dX7_readItem_55 rfl rfl (by decide) rfl ?_
        refine zV_aload_n dX7_readItem_56 rfl 0 rfl rfl ?_
        refine zV_aload_n dX7_readItem_57 rfl 0 rfl rfl ?_
        refine zV_getI (x := (nI (min (nx tp L k).1 3))) 13 dX7_readItem_58 rfl fl_RX7_242 rfl (by decide) rfl hk48.2.2.1 ?_
        refine zV_iconst (v := (nI 2)) dX7_readItem_61 rfl rfl ?_
        refine zN_icmp_ne (tgt := 97) dX7_readItem_62 rfl rfl (by omega) (by omega) (fun h62 => ?_) (fun h62 => ?_)
        · skip
          refine zV_iconst (v := (nI 0)) dX7_readItem_97 rfl rfl ?_
          refine zV_callV (E' := eX7_must (g_rmv 2)) (av := [.int (nI 0)]) (st := []) (b := 76) dX7_readItem_98 rfl (k_RX7_259 _) rfl ⟨by decide, by decide⟩ ⟨by decide, by decide⟩ (Or.inl rfl) rfl (Nat.le_of_ble_eq_true rfl) rfl rfl rfl (m_mustw (x := (nI 0)) hw48) (fun r98 M98 z => ?_)
          obtain ⟨rfl, rfl⟩ := z
          have hk98 : tkM (up2 (up2 (up2 I25 76 15 (nI 1)) 76 15 (nI 1)) 76 15 (nI 1)) (nx tp L k) := hk48.mv (fun j h1 h2 => up2_nk (by omega))
          have hf98 : fr7 I (up2 (up2 (up2 I25 76 15 (nI 1)) 76 15 (nI 1)) 76 15 (nI 1)) := hf48.up (by decide)
          have hw98 : (up2 (up2 (up2 I25 76 15 (nI 1)) 76 15 (nI 1)) 76 15 (nI 1)) 76 15 = nI 1 := up2_same _ _ _ _
          show zV G (eX7_readItem (g_rmv 7)) (0, 0) 101 [(0, .ref 76), (1, .int (-1)), (2, .int (nI ((nx tp L k).2.2.2))), (3, .int (nI ((nx tp L k).2.2.2)))] [] (mm (up2 (up2 (up2 I25 76 15 (nI 1)) 76 15 (nI 1)) 76 15 (nI 1)) J t) _
          refine zV_aload_n dX7_readItem_101 rfl 0 rfl rfl ?_
          refine zV_getr (q' := 85) 20 dX7_readItem_102 rfl fl_RX7_52 rfl (by decide) rfl rfl ?_
          refine zV_aload_n dX7_readItem_105 rfl 0 rfl rfl ?_
          refine zV_getI (x := (nI 1)) 15 dX7_readItem_106 rfl fl_RX7_252 rfl (by decide) rfl hw98 ?_
          refine zN_if_eq (tgt := 116) dX7_readItem_109 rfl rfl (by decide) (fun z => absurd z (by decide)) (fun _ => ?_)
          refine zV_iconst (v := (nI 0)) dX7_readItem_112 rfl rfl ?_
          refine zV_goto (tgt := 117) dX7_readItem_113 rfl ?_
          refine zV_iload_n dX7_readItem_117 rfl 3 rfl rfl ?_
          refine zV_iastore 0 dX7_readItem_118 rfl rfl rfl (by decide) (by decide)  ?_
          refine zV_aload_n dX7_readItem_119 rfl 0 rfl rfl ?_
          refine zV_bipush (v := (nI 10)) dX7_readItem_120 rfl rfl ?_
          refine zV_iload_n dX7_readItem_122 rfl 2 rfl rfl ?_
          refine zV_iload_n dX7_readItem_123 rfl 3 rfl rfl ?_
          refine zV_iconst (v := (nI 0)) dX7_readItem_124 rfl rfl ?_
          refine zV_iconst (v := (nI 0)) dX7_readItem_125 rfl rfl ?_
          refine zV_callV (E' := eX7_item (g_rmv 0)) (av := [.int (nI 10), .int (nI ((nx tp L k).2.2.2)), .int (nI ((nx tp L k).2.2.2)), .int (nI 0), .int (nI 0)]) (st := []) (b := 76) dX7_readItem_126 rfl (k_RX7_286 _) rfl ⟨by decide, by decide⟩ ⟨by decide, by decide⟩ (Or.inl rfl) rfl (Nat.le_of_ble_eq_true rfl) rfl rfl rfl (m_item (n := n) (w := 10) (a := (nx tp L k).2.2.2) (b := (nx tp L k).2.2.2) (c := 0) (d := 0) (by rw [up2_ni (by decide)]; exact (hf98.2 18 (by omega)).trans h18) hn) (fun r126 M126 z => ?_)
          obtain ⟨Iz, rfl, rfl, hz⟩ := z
          show zV G (eX7_readItem (g_rmv 7)) (0, 0) 129 [(0, .ref 76), (1, .int (-1)), (2, .int (nI ((nx tp L k).2.2.2))), (3, .int (nI ((nx tp L k).2.2.2)))] [] (mm Iz J t) _
          exact zV_return dX7_readItem_129 rfl (⟨Iz, rfl, rfl, rdn_bad (I1 := (up2 (up2 (up2 I25 76 15 (nI 1)) 76 15 (nI 1)) 76 15 (nI 1))) hf98 hk98 hw98 (fun i h1 => by funext z; exact up2_ni h1) hz (show rItem tp L k τ = (false, (nx tp L k), τ) from (if_neg h7).trans ((if_pos hB25).trans (if_neg hN36)))⟩)
        · skip
          refine zV_iload_n dX7_readItem_65 rfl 3 rfl rfl ?_
          refine zV_callS (E' := eX7_isPurse (g_rmv 1)) (av := [.int (nI ((nx tp L k).2.2.2))]) (st := [.ref 76]) dX7_readItem_66 rfl (k_RX7_76 _) rfl ⟨by decide, by decide⟩ ⟨by decide, by decide⟩ (Or.inl rfl) rfl (Nat.le_of_ble_eq_true rfl) (m_isPurse (x := (nI ((nx tp L k).2.2.2)))) (fun r66 M66 z => ?_)
          obtain ⟨rfl, rfl⟩ := z
          show zV G (eX7_readItem (g_rmv 7)) (0, 0) 69 [(0, .ref 76), (1, .int (-1)), (2, .int (nI ((nx tp L k).2.2.2))), (3, .int (nI ((nx tp L k).2.2.2)))] [.int (b2 (inR (nI ((nx tp L k).2.2.2)) 3)), .ref 76] (mm (up2 (up2 I25 76 15 (nI 1)) 76 15 (nI 1)) J t) _
          refine zB_if_eq (tgt := 97) dX7_readItem_69 rfl rfl  (fun h69 => ?_) (fun h69 => ?_)
          · skip
            refine zV_iconst (v := (nI 0)) dX7_readItem_97 rfl rfl ?_
            refine zV_callV (E' := eX7_must (g_rmv 2)) (av := [.int (nI 0)]) (st := []) (b := 76) dX7_readItem_98 rfl (k_RX7_259 _) rfl ⟨by decide, by decide⟩ ⟨by decide, by decide⟩ (Or.inl rfl) rfl (Nat.le_of_ble_eq_true rfl) rfl rfl rfl (m_mustw (x := (nI 0)) hw48) (fun r98 M98 z => ?_)
            obtain ⟨rfl, rfl⟩ := z
            have hk98 : tkM (up2 (up2 (up2 I25 76 15 (nI 1)) 76 15 (nI 1)) 76 15 (nI 1)) (nx tp L k) := hk48.mv (fun j h1 h2 => up2_nk (by omega))
            have hf98 : fr7 I (up2 (up2 (up2 I25 76 15 (nI 1)) 76 15 (nI 1)) 76 15 (nI 1)) := hf48.up (by decide)
            have hw98 : (up2 (up2 (up2 I25 76 15 (nI 1)) 76 15 (nI 1)) 76 15 (nI 1)) 76 15 = nI 1 := up2_same _ _ _ _
            show zV G (eX7_readItem (g_rmv 7)) (0, 0) 101 [(0, .ref 76), (1, .int (-1)), (2, .int (nI ((nx tp L k).2.2.2))), (3, .int (nI ((nx tp L k).2.2.2)))] [] (mm (up2 (up2 (up2 I25 76 15 (nI 1)) 76 15 (nI 1)) 76 15 (nI 1)) J t) _
            refine zV_aload_n dX7_readItem_101 rfl 0 rfl rfl ?_
            refine zV_getr (q' := 85) 20 dX7_readItem_102 rfl fl_RX7_52 rfl (by decide) rfl rfl ?_
            refine zV_aload_n dX7_readItem_105 rfl 0 rfl rfl ?_
            refine zV_getI (x := (nI 1)) 15 dX7_readItem_106 rfl fl_RX7_252 rfl (by decide) rfl hw98 ?_
            refine zN_if_eq (tgt := 116) dX7_readItem_109 rfl rfl (by decide) (fun z => absurd z (by decide)) (fun _ => ?_)
            refine zV_iconst (v := (nI 0)) dX7_readItem_112 rfl rfl ?_
            refine zV_goto (tgt := 117) dX7_readItem_113 rfl ?_
            refine zV_iload_n dX7_readItem_117 rfl 3 rfl rfl ?_
            refine zV_iastore 0 dX7_readItem_118 rfl rfl rfl (by decide) (by decide)  ?_
            refine zV_aload_n dX7_readItem_119 rfl 0 rfl rfl ?_
            refine zV_bipush (v := (nI 10)) dX7_readItem_120 rfl rfl ?_
            refine zV_iload_n dX7_readItem_122 rfl 2 rfl rfl ?_
            refine zV_iload_n dX7_readItem_123 rfl 3 rfl rfl ?_
            refine zV_iconst (v := (nI 0)) dX7_readItem_124 rfl rfl ?_
            refine zV_iconst (v := (nI 0)) dX7_readItem_125 rfl rfl ?_
            refine zV_callV (E' := eX7_item (g_rmv 0)) (av := [.int (nI 10), .int (nI ((nx tp L k).2.2.2)), .int (nI ((nx tp L k).2.2.2)), .int (nI 0), .int (nI 0)]) (st := []) (b := 76) dX7_readItem_126 rfl (k_RX7_286 _) rfl ⟨by decide, by decide⟩ ⟨by decide, by decide⟩ (Or.inl rfl) rfl (Nat.le_of_ble_eq_true rfl) rfl rfl rfl (m_item (n := n) (w := 10) (a := (nx tp L k).2.2.2) (b := (nx tp L k).2.2.2) (c := 0) (d := 0) (by rw [up2_ni (by decide)]; exact (hf98.2 18 (by omega)).trans h18) hn) (fun r126 M126 z => ?_)
            obtain ⟨Iz, rfl, rfl, hz⟩ := z
            show zV G (eX7_readItem (g_rmv 7)) (0, 0) 129 [(0, .ref 76), (1, .int (-1)), (2, .int (nI ((nx tp L k).2.2.2))), (3, .int (nI ((nx tp L k).2.2.2)))] [] (mm Iz J t) _
            exact zV_return dX7_readItem_129 rfl (⟨Iz, rfl, rfl, rdn_bad (I1 := (up2 (up2 (up2 I25 76 15 (nI 1)) 76 15 (nI 1)) 76 15 (nI 1))) hf98 hk98 hw98 (fun i h1 => by funext z; exact up2_ni h1) hz (show rItem tp L k τ = (false, (nx tp L k), τ) from (if_neg h7).trans ((if_pos hB25).trans (if_neg hN36)))⟩)
          · skip
            refine zV_iload_n dX7_readItem_72 rfl 3 rfl rfl ?_
            refine zV_aload_n dX7_readItem_73 rfl 0 rfl rfl ?_
            refine zV_getr (q' := 85) 20 dX7_readItem_74 rfl fl_RX7_52 rfl (by decide) rfl rfl ?_
            refine zV_aload_n dX7_readItem_77 rfl 0 rfl rfl ?_
            refine zV_getI (x := (nI 1)) 15 dX7_readItem_78 rfl fl_RX7_252 rfl (by decide) rfl hw48 ?_
            refine zN_if_eq (tgt := 88) dX7_readItem_81 rfl rfl (by decide) (fun z => absurd z (by decide)) (fun _ => ?_)
            refine zV_iconst (v := (nI 0)) dX7_readItem_84 rfl rfl ?_
            refine zV_goto (tgt := 89) dX7_readItem_85 rfl ?_
            refine zV_iald (x := ((up2 (up2 I25 76 15 (nI 1)) 76 15 (nI 1)) 85 0)) 0 dX7_readItem_89 rfl rfl rfl (by decide) (by decide) rfl ?_
            refine zV_icmp_eq (tgt := 97) dX7_readItem_90 rfl rfl  (fun h90 => ?_) (fun h90 => ?_)
            · skip
              refine zV_iconst (v := (nI 0)) dX7_readItem_97 rfl rfl ?_
              refine zV_callV (E' := eX7_must (g_rmv 2)) (av := [.int (nI 0)]) (st := []) (b := 76) dX7_readItem_98 rfl (k_RX7_259 _) rfl ⟨by decide, by decide⟩ ⟨by decide, by decide⟩ (Or.inl rfl) rfl (Nat.le_of_ble_eq_true rfl) rfl rfl rfl (m_mustw (x := (nI 0)) hw48) (fun r98 M98 z => ?_)
              obtain ⟨rfl, rfl⟩ := z
              have hk98 : tkM (up2 (up2 (up2 I25 76 15 (nI 1)) 76 15 (nI 1)) 76 15 (nI 1)) (nx tp L k) := hk48.mv (fun j h1 h2 => up2_nk (by omega))
              have hf98 : fr7 I (up2 (up2 (up2 I25 76 15 (nI 1)) 76 15 (nI 1)) 76 15 (nI 1)) := hf48.up (by decide)
              have hw98 : (up2 (up2 (up2 I25 76 15 (nI 1)) 76 15 (nI 1)) 76 15 (nI 1)) 76 15 = nI 1 := up2_same _ _ _ _
              show zV G (eX7_readItem (g_rmv 7)) (0, 0) 101 [(0, .ref 76), (1, .int (-1)), (2, .int (nI ((nx tp L k).2.2.2))), (3, .int (nI ((nx tp L k).2.2.2)))] [] (mm (up2 (up2 (up2 I25 76 15 (nI 1)) 76 15 (nI 1)) 76 15 (nI 1)) J t) _
              refine zV_aload_n dX7_readItem_101 rfl 0 rfl rfl ?_
              refine zV_getr (q' := 85) 20 dX7_readItem_102 rfl fl_RX7_52 rfl (by decide) rfl rfl ?_
              refine zV_aload_n dX7_readItem_105 rfl 0 rfl rfl ?_
              refine zV_getI (x := (nI 1)) 15 dX7_readItem_106 rfl fl_RX7_252 rfl (by decide) rfl hw98 ?_
              refine zN_if_eq (tgt := 116) dX7_readItem_109 rfl rfl (by decide) (fun z => absurd z (by decide)) (fun _ => ?_)
              refine zV_iconst (v := (nI 0)) dX7_readItem_112 rfl rfl ?_
              refine zV_goto (tgt := 117) dX7_readItem_113 rfl ?_
              refine zV_iload_n dX7_readItem_117 rfl 3 rfl rfl ?_
              refine zV_iastore 0 dX7_readItem_118 rfl rfl rfl (by decide) (by decide)  ?_
              refine zV_aload_n dX7_readItem_119 rfl 0 rfl rfl ?_
              refine zV_bipush (v := (nI 10)) dX7_readItem_120 rfl rfl ?_
              refine zV_iload_n dX7_readItem_122 rfl 2 rfl rfl ?_
              refine zV_iload_n dX7_readItem_123 rfl 3 rfl rfl ?_
              refine zV_iconst (v := (nI 0)) dX7_readItem_124 rfl rfl ?_
              refine zV_iconst (v := (nI 0)) dX7_readItem_125 rfl rfl ?_
              refine zV_callV (E' := eX7_item (g_rmv 0)) (av := [.int (nI 10), .int (nI ((nx tp L k).2.2.2)), .int (nI ((nx tp L k).2.2.2)), .int (nI 0), .int (nI 0)]) (st := []) (b := 76) dX7_readItem_126 rfl (k_RX7_286 _) rfl ⟨by decide, by decide⟩ ⟨by decide, by decide⟩ (Or.inl rfl) rfl (Nat.le_of_ble_eq_true rfl) rfl rfl rfl (m_item (n := n) (w := 10) (a := (nx tp L k).2.2.2) (b := (nx tp L k).2.2.2) (c := 0) (d := 0) (by rw [up2_ni (by decide)]; exact (hf98.2 18 (by omega)).trans h18) hn) (fun r126 M126 z => ?_)
              obtain ⟨Iz, rfl, rfl, hz⟩ := z
              show zV G (eX7_readItem (g_rmv 7)) (0, 0) 129 [(0, .ref 76), (1, .int (-1)), (2, .int (nI ((nx tp L k).2.2.2))), (3, .int (nI ((nx tp L k).2.2.2)))] [] (mm Iz J t) _
              exact zV_return dX7_readItem_129 rfl (⟨Iz, rfl, rfl, rdn_bad (I1 := (up2 (up2 (up2 I25 76 15 (nI 1)) 76 15 (nI 1)) 76 15 (nI 1))) hf98 hk98 hw98 (fun i h1 => by funext z; exact up2_ni h1) hz (show rItem tp L k τ = (false, (nx tp L k), τ) from (if_neg h7).trans ((if_pos hB25).trans (if_neg hN36)))⟩)
            · skip
              refine zV_iconst (v := (nI 1)) dX7_readItem_93 rfl rfl ?_
              refine zV_goto (tgt := 98) dX7_readItem_94 rfl ?_
              refine zV_callV (E' := eX7_must (g_rmv 2)) (av := [.int (nI 1)]) (st := []) (b := 76) dX7_readItem_98 rfl (k_RX7_259 _) rfl ⟨by decide, by decide⟩ ⟨by decide, by decide⟩ (Or.inl rfl) rfl (Nat.le_of_ble_eq_true rfl) rfl rfl rfl (m_mustw (x := (nI 1)) hw48) (fun r98 M98 z => ?_)
              obtain ⟨rfl, rfl⟩ := z
              have hk98 : tkM (up2 (up2 (up2 I25 76 15 (nI 1)) 76 15 (nI 1)) 76 15 (nI 1)) (nx tp L k) := hk48.mv (fun j h1 h2 => up2_nk (by omega))
              have hf98 : fr7 I (up2 (up2 (up2 I25 76 15 (nI 1)) 76 15 (nI 1)) 76 15 (nI 1)) := hf48.up (by decide)
              have hw98 : (up2 (up2 (up2 I25 76 15 (nI 1)) 76 15 (nI 1)) 76 15 (nI 1)) 76 15 = nI 1 := up2_same _ _ _ _
              show zV G (eX7_readItem (g_rmv 7)) (0, 0) 101 [(0, .ref 76), (1, .int (-1)), (2, .int (nI ((nx tp L k).2.2.2))), (3, .int (nI ((nx tp L k).2.2.2)))] [] (mm (up2 (up2 (up2 I25 76 15 (nI 1)) 76 15 (nI 1)) 76 15 (nI 1)) J t) _
              refine zV_aload_n dX7_readItem_101 rfl 0 rfl rfl ?_
              refine zV_getr (q' := 85) 20 dX7_readItem_102 rfl fl_RX7_52 rfl (by decide) rfl rfl ?_
              refine zV_aload_n dX7_readItem_105 rfl 0 rfl rfl ?_
              refine zV_getI (x := (nI 1)) 15 dX7_readItem_106 rfl fl_RX7_252 rfl (by decide) rfl hw98 ?_
              refine zN_if_eq (tgt := 116) dX7_readItem_109 rfl rfl (by decide) (fun z => absurd z (by decide)) (fun _ => ?_)
              refine zV_iconst (v := (nI 0)) dX7_readItem_112 rfl rfl ?_
              refine zV_goto (tgt := 117) dX7_readItem_113 rfl ?_
              refine zV_iload_n dX7_readItem_117 rfl 3 rfl rfl ?_
              refine zV_iastore 0 dX7_readItem_118 rfl rfl rfl (by decide) (by decide)  ?_
              refine zV_aload_n dX7_readItem_119 rfl 0 rfl rfl ?_
              refine zV_bipush (v := (nI 10)) dX7_readItem_120 rfl rfl ?_
              refine zV_iload_n dX7_readItem_122 rfl 2 rfl rfl ?_
              refine zV_iload_n dX7_readItem_123 rfl 3 rfl rfl ?_
              refine zV_iconst (v := (nI 0)) dX7_readItem_124 rfl rfl ?_
              refine zV_iconst (v := (nI 0)) dX7_readItem_125 rfl rfl ?_
              refine zV_callV (E' := eX7_item (g_rmv 0)) (av := [.int (nI 10), .int (nI ((nx tp L k).2.2.2)), .int (nI ((nx tp L k).2.2.2)), .int (nI 0), .int (nI 0)]) (st := []) (b := 76) dX7_readItem_126 rfl (k_RX7_286 _) rfl ⟨by decide, by decide⟩ ⟨by decide, by decide⟩ (Or.inl rfl) rfl (Nat.le_of_ble_eq_true rfl) rfl rfl rfl (m_item (n := n) (w := 10) (a := (nx tp L k).2.2.2) (b := (nx tp L k).2.2.2) (c := 0) (d := 0) (by rw [up2_ni (by decide)]; exact (hf98.2 18 (by omega)).trans h18) hn) (fun r126 M126 z => ?_)
              obtain ⟨Iz, rfl, rfl, hz⟩ := z
              show zV G (eX7_readItem (g_rmv 7)) (0, 0) 129 [(0, .ref 76), (1, .int (-1)), (2, .int (nI ((nx tp L k).2.2.2))), (3, .int (nI ((nx tp L k).2.2.2)))] [] (mm Iz J t) _
              exact zV_return dX7_readItem_129 rfl (⟨Iz, rfl, rfl, rdn_bad (I1 := (up2 (up2 (up2 I25 76 15 (nI 1)) 76 15 (nI 1)) 76 15 (nI 1))) hf98 hk98 hw98 (fun i h1 => by funext z; exact up2_ni h1) hz (show rItem tp L k τ = (false, (nx tp L k), τ) from (if_neg h7).trans ((if_pos hB25).trans (if_neg hN36)))⟩)
    · skip
      refine zV_callV (E' := eX7_must (g_rmv 2)) (av := [.int (b2 (isW tp k 7))]) (st := []) (b := 76) dX7_readItem_25 rfl (k_RX7_259 _) rfl ⟨by decide, by decide⟩ ⟨by decide, by decide⟩ (Or.inl rfl) rfl (Nat.le_of_ble_eq_true rfl) rfl rfl rfl (m_mustN (P := (isW tp k 7)) hB25 hw0) (fun r25 M25 z => ?_)
      obtain ⟨rfl, rfl⟩ := z
      have hk25 : tkM (up2 I 76 15 (nI 1)) k := hk.mv (fun j h1 h2 => up2_nk (by omega))
      have hf25 : fr7 I (up2 I 76 15 (nI 1)) := (fr7.rf (I := I)).up (by decide)
      have hw25 : (up2 I 76 15 (nI 1)) 76 15 = nI 1 := up2_same _ _ _ _
      show zV G (eX7_readItem (g_rmv 7)) (0, 0) 28 [(0, .ref 76), (1, .int (-1))] [] (mm (up2 I 76 15 (nI 1)) J t) _
      refine zV_aload_n dX7_readItem_28 rfl 0 rfl rfl ?_
      refine zV_iconst (v := (nI 0)) dX7_readItem_29 rfl rfl ?_
      refine zV_aload_n dX7_readItem_30 rfl 0 rfl rfl ?_
      refine zV_getI (x := (nI τ.1)) 19 dX7_readItem_31 rfl fl_RX7_278 rfl (by decide) rfl ((hf25.2 19 (by omega)).trans h19) ?_
      refine zV_iconst (v := (nI 1)) dX7_readItem_34 rfl rfl ?_
      refine zA_isub (z := (nI τ.1 - nI 1)) dX7_readItem_35 rfl  (rfl) ?_
      refine zV_callV (E' := eX7_number (g_rmv 3)) (av := [.int (nI 0), .int (nI τ.1 - nI 1)]) (st := []) (b := 76) dX7_readItem_36 rfl (k_RX7_281 _) rfl ⟨by decide, by decide⟩ ⟨by decide, by decide⟩ (Or.inl rfl) rfl (Nat.le_of_ble_eq_true rfl) rfl rfl rfl (m_numW (x := (nI τ.1 - nI 1)) (hf25.use hr) hk25 ho hw25) (fun r36 M36 z => ?_)
      obtain ⟨rfl, rfl⟩ := z
      have hk36 : tkM (up2 (up2 I 76 15 (nI 1)) 76 15 (nI 1)) k := hk25.mv (fun j h1 h2 => up2_nk (by omega))
      have hf36 : fr7 I (up2 (up2 I 76 15 (nI 1)) 76 15 (nI 1)) := hf25.up (by decide)
      have hw36 : (up2 (up2 I 76 15 (nI 1)) 76 15 (nI 1)) 76 15 = nI 1 := up2_same _ _ _ _
      show zV G (eX7_readItem (g_rmv 7)) (0, 0) 39 [(0, .ref 76), (1, .int (-1))] [.int (nI k.2.2.2)] (mm (up2 (up2 I 76 15 (nI 1)) 76 15 (nI 1)) J t) _
      refine zV_istore_n (lv' := [(0, .ref 76), (1, .int (-1)), (2, .int (nI k.2.2.2))]) dX7_readItem_39 rfl rfl (by decide) rfl ?_
      refine zV_aload_n dX7_readItem_40 rfl 0 rfl rfl ?_
      refine zV_aload_n dX7_readItem_41 rfl 0 rfl rfl ?_
      refine zV_ldcwS (i := 8) (tx := "to") dX7_readItem_42 rfl (by decide) ?_
      refine zV_callV (E' := eX7_isWord (g_rmv 5)) (av := [.ref (1000 + 8)]) (st := [.ref 76]) (b := 76) dX7_readItem_45 rfl (k_RX7_266 _) rfl ⟨by decide, by decide⟩ ⟨by decide, by decide⟩ (Or.inl rfl) rfl (Nat.le_of_ble_eq_true rfl) rfl rfl rfl (m_isWord (t := 8) (hf36.use hr) hk36 ho (by decide)) (fun r45 M45 z => ?_)
      obtain ⟨rfl, rfl⟩ := z
      show zV G (eX7_readItem (g_rmv 7)) (0, 0) 48 [(0, .ref 76), (1, .int (-1)), (2, .int (nI k.2.2.2))] [.int (b2 (isW tp k 8)), .ref 76] (mm (up2 (up2 I 76 15 (nI 1)) 76 15 (nI 1)) J t) _
      refine zV_callV (E' := eX7_must (g_rmv 2)) (av := [.int (b2 (isW tp k 8))]) (st := []) (b := 76) dX7_readItem_48 rfl (k_RX7_259 _) rfl ⟨by decide, by decide⟩ ⟨by decide, by decide⟩ (Or.inl rfl) rfl (Nat.le_of_ble_eq_true rfl) rfl rfl rfl (m_mustw (x := (b2 (isW tp k 8))) hw36) (fun r48 M48 z => ?_)
      obtain ⟨rfl, rfl⟩ := z
      have hk48 : tkM (up2 (up2 (up2 I 76 15 (nI 1)) 76 15 (nI 1)) 76 15 (nI 1)) k := hk36.mv (fun j h1 h2 => up2_nk (by omega))
      have hf48 : fr7 I (up2 (up2 (up2 I 76 15 (nI 1)) 76 15 (nI 1)) 76 15 (nI 1)) := hf36.up (by decide)
      have hw48 : (up2 (up2 (up2 I 76 15 (nI 1)) 76 15 (nI 1)) 76 15 (nI 1)) 76 15 = nI 1 := up2_same _ _ _ _
      show zV G (eX7_readItem (g_rmv 7)) (0, 0) 51 [(0, .ref 76), (1, .int (-1)), (2, .int (nI k.2.2.2))] [] (mm (up2 (up2 (up2 I 76 15 (nI 1)) 76 15 (nI 1)) 76 15 (nI 1)) J t) _
      refine zV_aload_n dX7_readItem_51 rfl 0 rfl rfl ?_
      refine zV_getI (x := (nI k.2.2.2)) 14 dX7_readItem_52 rfl fl_RX7_239 rfl (by decide) rfl hk48.2.2.2 ?_
      refine zV_istore_n (lv' := [(0, .ref 76), (1, .int (-1)), (2, .int (nI k.2.2.2)), (3, .int (nI k.2.2.2))]) dX7_readItem_55 rfl rfl (by decide) rfl ?_
      refine zV_aload_n dX7_readItem_56 rfl 0 rfl rfl ?_
      refine zV_aload_n dX7_readItem_57 rfl 0 rfl rfl ?_
      refine zV_getI (x := (nI (min k.1 3))) 13 dX7_readItem_58 rfl fl_RX7_242 rfl (by decide) rfl hk48.2.2.1 ?_
      refine zV_iconst (v := (nI 2)) dX7_readItem_61 rfl rfl ?_
      refine zN_icmp_ne (tgt := 97) dX7_readItem_62 rfl rfl (by omega) (by omega) (fun h62 => ?_) (fun h62 => ?_)
      · skip
        refine zV_iconst (v := (nI 0)) dX7_readItem_97 rfl rfl ?_
        refine zV_callV (E' := eX7_must (g_rmv 2)) (av := [.int (nI 0)]) (st := []) (b := 76) dX7_readItem_98 rfl (k_RX7_259 _) rfl ⟨by decide, by decide⟩ ⟨by decide, by decide⟩ (Or.inl rfl) rfl (Nat.le_of_ble_eq_true rfl) rfl rfl rfl (m_mustw (x := (nI 0)) hw48) (fun r98 M98 z => ?_)
        obtain ⟨rfl, rfl⟩ := z
        have hk98 : tkM (up2 (up2 (up2 (up2 I 76 15 (nI 1)) 76 15 (nI 1)) 76 15 (nI 1)) 76 15 (nI 1)) k := hk48.mv (fun j h1 h2 => up2_nk (by omega))
        have hf98 : fr7 I (up2 (up2 (up2 (up2 I 76 15 (nI 1)) 76 15 (nI 1)) 76 15 (nI 1)) 76 15 (nI 1)) := hf48.up (by decide)
        have hw98 : (up2 (up2 (up2 (up2 I 76 15 (nI 1)) 76 15 (nI 1)) 76 15 (nI 1)) 76 15 (nI 1)) 76 15 = nI 1 := up2_same _ _ _ _
        show zV G (eX7_readItem (g_rmv 7)) (0, 0) 101 [(0, .ref 76), (1, .int (-1)), (2, .int (nI k.2.2.2)), (3, .int (nI k.2.2.2))] [] (mm (up2 (up2 (up2 (up2 I 76 15 (nI 1)) 76 15 (nI 1)) 76 15 (nI 1)) 76 15 (nI 1)) J t) _
        refine zV_aload_n dX7_readItem_101 rfl 0 rfl rfl ?_
        refine zV_getr (q' := 85) 20 dX7_readItem_102 rfl fl_RX7_52 rfl (by decide) rfl rfl ?_
        refine zV_aload_n dX7_readItem_105 rfl 0 rfl rfl ?_
        refine zV_getI (x := (nI 1)) 15 dX7_readItem_106 rfl fl_RX7_252 rfl (by decide) rfl hw98 ?_
        refine zN_if_eq (tgt := 116) dX7_readItem_109 rfl rfl (by decide) (fun z => absurd z (by decide)) (fun _ => ?_)
        refine zV_iconst (v := (nI 0)) dX7_readItem_112 rfl rfl ?_
        refine zV_goto (tgt := 117) dX7_readItem_113 rfl ?_
        refine zV_iload_n dX7_readItem_117 rfl 3 rfl rfl ?_
        refine zV_iastore 0 dX7_readItem_118 rfl rfl rfl (by decide) (by decide)  ?_
        refine zV_aload_n dX7_readItem_119 rfl 0 rfl rfl ?_
        refine zV_bipush (v := (nI 10)) dX7_readItem_120 rfl rfl ?_
        refine zV_iload_n dX7_readItem_122 rfl 2 rfl rfl ?_
        refine zV_iload_n dX7_readItem_123 rfl 3 rfl rfl ?_
        refine zV_iconst (v := (nI 0)) dX7_readItem_124 rfl rfl ?_
        refine zV_iconst (v := (nI 0)) dX7_readItem_125 rfl rfl ?_
        refine zV_callV (E' := eX7_item (g_rmv 0)) (av := [.int (nI 10), .int (nI k.2.2.2), .int (nI k.2.2.2), .int (nI 0), .int (nI 0)]) (st := []) (b := 76) dX7_readItem_126 rfl (k_RX7_286 _) rfl ⟨by decide, by decide⟩ ⟨by decide, by decide⟩ (Or.inl rfl) rfl (Nat.le_of_ble_eq_true rfl) rfl rfl rfl (m_item (n := n) (w := 10) (a := k.2.2.2) (b := k.2.2.2) (c := 0) (d := 0) (by rw [up2_ni (by decide)]; exact (hf98.2 18 (by omega)).trans h18) hn) (fun r126 M126 z => ?_)
        obtain ⟨Iz, rfl, rfl, hz⟩ := z
        show zV G (eX7_readItem (g_rmv 7)) (0, 0) 129 [(0, .ref 76), (1, .int (-1)), (2, .int (nI k.2.2.2)), (3, .int (nI k.2.2.2))] [] (mm Iz J t) _
        exact zV_return dX7_readItem_129 rfl (⟨Iz, rfl, rfl, rdn_bad (I1 := (up2 (up2 (up2 (up2 I 76 15 (nI 1)) 76 15 (nI 1)) 76 15 (nI 1)) 76 15 (nI 1))) hf98 hk98 hw98 (fun i h1 => by funext z; exact up2_ni h1) hz (show rItem tp L k τ = (false, k, τ) from (if_neg h7).trans (if_neg hB25))⟩)
      · skip
        refine zV_iload_n dX7_readItem_65 rfl 3 rfl rfl ?_
        refine zV_callS (E' := eX7_isPurse (g_rmv 1)) (av := [.int (nI k.2.2.2)]) (st := [.ref 76]) dX7_readItem_66 rfl (k_RX7_76 _) rfl ⟨by decide, by decide⟩ ⟨by decide, by decide⟩ (Or.inl rfl) rfl (Nat.le_of_ble_eq_true rfl) (m_isPurse (x := (nI k.2.2.2))) (fun r66 M66 z => ?_)
        obtain ⟨rfl, rfl⟩ := z
        show zV G (eX7_readItem (g_rmv 7)) (0, 0) 69 [(0, .ref 76), (1, .int (-1)), (2, .int (nI k.2.2.2)), (3, .int (nI k.2.2.2))] [.int (b2 (inR (nI k.2.2.2) 3)), .ref 76] (mm (up2 (up2 (up2 I 76 15 (nI 1)) 76 15 (nI 1)) 76 15 (nI 1)) J t) _
        refine zB_if_eq (tgt := 97) dX7_readItem_69 rfl rfl  (fun h69 => ?_) (fun h69 => ?_)
        · skip
          refine zV_iconst (v := (nI 0)) dX7_readItem_97 rfl rfl ?_
          refine zV_callV (E' := eX7_must (g_rmv 2)) (av := [.int (nI 0)]) (st := []) (b := 76) dX7_readItem_98 rfl (k_RX7_259 _) rfl ⟨by decide, by decide⟩ ⟨by decide, by decide⟩ (Or.inl rfl) rfl (Nat.le_of_ble_eq_true rfl) rfl rfl rfl (m_mustw (x := (nI 0)) hw48) (fun r98 M98 z => ?_)
          obtain ⟨rfl, rfl⟩ := z
          have hk98 : tkM (up2 (up2 (up2 (up2 I 76 15 (nI 1)) 76 15 (nI 1)) 76 15 (nI 1)) 76 15 (nI 1)) k := hk48.mv (fun j h1 h2 => up2_nk (by omega))
          have hf98 : fr7 I (up2 (up2 (up2 (up2 I 76 15 (nI 1)) 76 15 (nI 1)) 76 15 (nI 1)) 76 15 (nI 1)) := hf48.up (by decide)
          have hw98 : (up2 (up2 (up2 (up2 I 76 15 (nI 1)) 76 15 (nI 1)) 76 15 (nI 1)) 76 15 (nI 1)) 76 15 = nI 1 := up2_same _ _ _ _
          show zV G (eX7_readItem (g_rmv 7)) (0, 0) 101 [(0, .ref 76), (1, .int (-1)), (2, .int (nI k.2.2.2)), (3, .int (nI k.2.2.2))] [] (mm (up2 (up2 (up2 (up2 I 76 15 (nI 1)) 76 15 (nI 1)) 76 15 (nI 1)) 76 15 (nI 1)) J t) _
          refine zV_aload_n dX7_readItem_101 rfl 0 rfl rfl ?_
          refine zV_getr (q' := 85) 20 dX7_readItem_102 rfl fl_RX7_52 rfl (by decide) rfl rfl ?_
          refine zV_aload_n dX7_readItem_105 rfl 0 rfl rfl ?_
          refine zV_getI (x := (nI 1)) 15 dX7_readItem_106 rfl fl_RX7_252 rfl (by decide) rfl hw98 ?_
          refine zN_if_eq (tgt := 116) dX7_readItem_109 rfl rfl (by decide) (fun z => absurd z (by decide)) (fun _ => ?_)
          refine zV_iconst (v := (nI 0)) dX7_readItem_112 rfl rfl ?_
          refine zV_goto (tgt := 117) dX7_readItem_113 rfl ?_
          refine zV_iload_n dX7_readItem_117 rfl 3 rfl rfl ?_
          refine zV_iastore 0 dX7_readItem_118 rfl rfl rfl (by decide) (by decide)  ?_
          refine zV_aload_n dX7_readItem_119 rfl 0 rfl rfl ?_
          refine zV_bipush (v := (nI 10)) dX7_readItem_120 rfl rfl ?_
          refine zV_iload_n dX7_readItem_122 rfl 2 rfl rfl ?_
          refine zV_iload_n dX7_readItem_123 rfl 3 rfl rfl ?_
          refine zV_iconst (v := (nI 0)) dX7_readItem_124 rfl rfl ?_
          refine zV_iconst (v := (nI 0)) dX7_readItem_125 rfl rfl ?_
          refine zV_callV (E' := eX7_item (g_rmv 0)) (av := [.int (nI 10), .int (nI k.2.2.2), .int (nI k.2.2.2), .int (nI 0), .int (nI 0)]) (st := []) (b := 76) dX7_readItem_126 rfl (k_RX7_286 _) rfl ⟨by decide, by decide⟩ ⟨by decide, by decide⟩ (Or.inl rfl) rfl (Nat.le_of_ble_eq_true rfl) rfl rfl rfl (m_item (n := n) (w := 10) (a := k.2.2.2) (b := k.2.2.2) (c := 0) (d := 0) (by rw [up2_ni (by decide)]; exact (hf98.2 18 (by omega)).trans h18) hn) (fun r126 M126 z => ?_)
          obtain ⟨Iz, rfl, rfl, hz⟩ := z
          show zV G (eX7_readItem (g_rmv 7)) (0, 0) 129 [(0, .ref 76), (1, .int (-1)), (2, .int (nI k.2.2.2)), (3, .int (nI k.2.2.2))] [] (mm Iz J t) _
          exact zV_return dX7_readItem_129 rfl (⟨Iz, rfl, rfl, rdn_bad (I1 := (up2 (up2 (up2 (up2 I 76 15 (nI 1)) 76 15 (nI 1)) 76 15 (nI 1)) 76 15 (nI 1))) hf98 hk98 hw98 (fun i h1 => by funext z; exact up2_ni h1) hz (show rItem tp L k τ = (false, k, τ) from (if_neg h7).trans (if_neg hB25))⟩)
        · skip
          refine zV_iload_n dX7_readItem_72 rfl 3 rfl rfl ?_
          refine zV_aload_n dX7_readItem_73 rfl 0 rfl rfl ?_
          refine zV_getr (q' := 85) 20 dX7_readItem_74 rfl fl_RX7_52 rfl (by decide) rfl rfl ?_
          refine zV_aload_n dX7_readItem_77 rfl 0 rfl rfl ?_
          refine zV_getI (x := (nI 1)) 15 dX7_readItem_78 rfl fl_RX7_252 rfl (by decide) rfl hw48 ?_
          refine zN_if_eq (tgt := 88) dX7_readItem_81 rfl rfl (by decide) (fun z => absurd z (by decide)) (fun _ => ?_)
          refine zV_iconst (v := (nI 0)) dX7_readItem_84 rfl rfl ?_
          refine zV_goto (tgt := 89) dX7_readItem_85 rfl ?_
          refine zV_iald (x := ((up2 (up2 (up2 I 76 15 (nI 1)) 76 15 (nI 1)) 76 15 (nI 1)) 85 0)) 0 dX7_readItem_89 rfl rfl rfl (by decide) (by decide) rfl ?_
          refine zV_icmp_eq (tgt := 97) dX7_readItem_90 rfl rfl  (fun h90 => ?_) (fun h90 => ?_)
          · skip
            refine zV_iconst (v := (nI 0)) dX7_readItem_97 rfl rfl ?_
            refine zV_callV (E' := eX7_must (g_rmv 2)) (av := [.int (nI 0)]) (st := []) (b := 76) dX7_readItem_98 rfl (k_RX7_259 _) rfl ⟨by decide, by decide⟩ ⟨by decide, by decide⟩ (Or.inl rfl) rfl (Nat.le_of_ble_eq_true rfl) rfl rfl rfl (m_mustw (x := (nI 0)) hw48) (fun r98 M98 z => ?_)
            obtain ⟨rfl, rfl⟩ := z
            have hk98 : tkM (up2 (up2 (up2 (up2 I 76 15 (nI 1)) 76 15 (nI 1)) 76 15 (nI 1)) 76 15 (nI 1)) k := hk48.mv (fun j h1 h2 => up2_nk (by omega))
            have hf98 : fr7 I (up2 (up2 (up2 (up2 I 76 15 (nI 1)) 76 15 (nI 1)) 76 15 (nI 1)) 76 15 (nI 1)) := hf48.up (by decide)
            have hw98 : (up2 (up2 (up2 (up2 I 76 15 (nI 1)) 76 15 (nI 1)) 76 15 (nI 1)) 76 15 (nI 1)) 76 15 = nI 1 := up2_same _ _ _ _
            show zV G (eX7_readItem (g_rmv 7)) (0, 0) 101 [(0, .ref 76), (1, .int (-1)), (2, .int (nI k.2.2.2)), (3, .int (nI k.2.2.2))] [] (mm (up2 (up2 (up2 (up2 I 76 15 (nI 1)) 76 15 (nI 1)) 76 15 (nI 1)) 76 15 (nI 1)) J t) _
            refine zV_aload_n dX7_readItem_101 rfl 0 rfl rfl ?_
            refine zV_getr (q' := 85) 20 dX7_readItem_102 rfl fl_RX7_52 rfl (by decide) rfl rfl ?_
            refine zV_aload_n dX7_readItem_105 rfl 0 rfl rfl ?_
            refine zV_getI (x := (nI 1)) 15 dX7_readItem_106 rfl fl_RX7_252 rfl (by decide) rfl hw98 ?_
            refine zN_if_eq (tgt := 116) dX7_readItem_109 rfl rfl (by decide) (fun z => absurd z (by decide)) (fun _ => ?_)
            refine zV_iconst (v := (nI 0)) dX7_readItem_112 rfl rfl ?_
            refine zV_goto (tgt := 117) dX7_readItem_113 rfl ?_
            refine zV_iload_n dX7_readItem_117 rfl 3 rfl rfl ?_
            refine zV_iastore 0 dX7_readItem_118 rfl rfl rfl (by decide) (by decide)  ?_
            refine zV_aload_n dX7_readItem_119 rfl 0 rfl rfl ?_
            refine zV_bipush (v := (nI 10)) dX7_readItem_120 rfl rfl ?_
            refine zV_iload_n dX7_readItem_122 rfl 2 rfl rfl ?_
            refine zV_iload_n dX7_readItem_123 rfl 3 rfl rfl ?_
            refine zV_iconst (v := (nI 0)) dX7_readItem_124 rfl rfl ?_
            refine zV_iconst (v := (nI 0)) dX7_readItem_125 rfl rfl ?_
            refine zV_callV (E' := eX7_item (g_rmv 0)) (av := [.int (nI 10), .int (nI k.2.2.2), .int (nI k.2.2.2), .int (nI 0), .int (nI 0)]) (st := []) (b := 76) dX7_readItem_126 rfl (k_RX7_286 _) rfl ⟨by decide, by decide⟩ ⟨by decide, by decide⟩ (Or.inl rfl) rfl (Nat.le_of_ble_eq_true rfl) rfl rfl rfl (m_item (n := n) (w := 10) (a := k.2.2.2) (b := k.2.2.2) (c := 0) (d := 0) (by rw [up2_ni (by decide)]; exact (hf98.2 18 (by omega)).trans h18) hn) (fun r126 M126 z => ?_)
            obtain ⟨Iz, rfl, rfl, hz⟩ := z
            show zV G (eX7_readItem (g_rmv 7)) (0, 0) 129 [(0, .ref 76), (1, .int (-1)), (2, .int (nI k.2.2.2)), (3, .int (nI k.2.2.2))] [] (mm Iz J t) _
            exact zV_return dX7_readItem_129 rfl (⟨Iz, rfl, rfl, rdn_bad (I1 := (up2 (up2 (up2 (up2 I 76 15 (nI 1)) 76 15 (nI 1)) 76 15 (nI 1)) 76 15 (nI 1))) hf98 hk98 hw98 (fun i h1 => by funext z; exact up2_ni h1) hz (show rItem tp L k τ = (false, k, τ) from (if_neg h7).trans (if_neg hB25))⟩)
          · skip
            refine zV_iconst (v := (nI 1)) dX7_readItem_93 rfl rfl ?_
            refine zV_goto (tgt := 98) dX7_readItem_94 rfl ?_
            refine zV_callV (E' := eX7_must (g_rmv 2)) (av := [.int (nI 1)]) (st := []) (b := 76) dX7_readItem_98 rfl (k_RX7_259 _) rfl ⟨by decide, by decide⟩ ⟨by decide, by decide⟩ (Or.inl rfl) rfl (Nat.le_of_ble_eq_true rfl) rfl rfl rfl (m_mustw (x := (nI 1)) hw48) (fun r98 M98 z => ?_)
            obtain ⟨rfl, rfl⟩ := z
            have hk98 : tkM (up2 (up2 (up2 (up2 I 76 15 (nI 1)) 76 15 (nI 1)) 76 15 (nI 1)) 76 15 (nI 1)) k := hk48.mv (fun j h1 h2 => up2_nk (by omega))
            have hf98 : fr7 I (up2 (up2 (up2 (up2 I 76 15 (nI 1)) 76 15 (nI 1)) 76 15 (nI 1)) 76 15 (nI 1)) := hf48.up (by decide)
            have hw98 : (up2 (up2 (up2 (up2 I 76 15 (nI 1)) 76 15 (nI 1)) 76 15 (nI 1)) 76 15 (nI 1)) 76 15 = nI 1 := up2_same _ _ _ _
            show zV G (eX7_readItem (g_rmv 7)) (0, 0) 101 [(0, .ref 76), (1, .int (-1)), (2, .int (nI k.2.2.2)), (3, .int (nI k.2.2.2))] [] (mm (up2 (up2 (up2 (up2 I 76 15 (nI 1)) 76 15 (nI 1)) 76 15 (nI 1)) 76 15 (nI 1)) J t) _
            refine zV_aload_n dX7_readItem_101 rfl 0 rfl rfl ?_
            refine zV_getr (q' := 85) 20 dX7_readItem_102 rfl fl_RX7_52 rfl (by decide) rfl rfl ?_
            refine zV_aload_n dX7_readItem_105 rfl 0 rfl rfl ?_
            refine zV_getI (x := (nI 1)) 15 dX7_readItem_106 rfl fl_RX7_252 rfl (by decide) rfl hw98 ?_
            refine zN_if_eq (tgt := 116) dX7_readItem_109 rfl rfl (by decide) (fun z => absurd z (by decide)) (fun _ => ?_)
            refine zV_iconst (v := (nI 0)) dX7_readItem_112 rfl rfl ?_
            refine zV_goto (tgt := 117) dX7_readItem_113 rfl ?_
            refine zV_iload_n dX7_readItem_117 rfl 3 rfl rfl ?_
            refine zV_iastore 0 dX7_readItem_118 rfl rfl rfl (by decide) (by decide)  ?_
            refine zV_aload_n dX7_readItem_119 rfl 0 rfl rfl ?_
            refine zV_bipush (v := (nI 10)) dX7_readItem_120 rfl rfl ?_
            refine zV_iload_n dX7_readItem_122 rfl 2 rfl rfl ?_
            refine zV_iload_n dX7_readItem_123 rfl 3 rfl rfl ?_
            refine zV_iconst (v := (nI 0)) dX7_readItem_124 rfl rfl ?_
            refine zV_iconst (v := (nI 0)) dX7_readItem_125 rfl rfl ?_
            refine zV_callV (E' := eX7_item (g_rmv 0)) (av := [.int (nI 10), .int (nI k.2.2.2), .int (nI k.2.2.2), .int (nI 0), .int (nI 0)]) (st := []) (b := 76) dX7_readItem_126 rfl (k_RX7_286 _) rfl ⟨by decide, by decide⟩ ⟨by decide, by decide⟩ (Or.inl rfl) rfl (Nat.le_of_ble_eq_true rfl) rfl rfl rfl (m_item (n := n) (w := 10) (a := k.2.2.2) (b := k.2.2.2) (c := 0) (d := 0) (by rw [up2_ni (by decide)]; exact (hf98.2 18 (by omega)).trans h18) hn) (fun r126 M126 z => ?_)
            obtain ⟨Iz, rfl, rfl, hz⟩ := z
            show zV G (eX7_readItem (g_rmv 7)) (0, 0) 129 [(0, .ref 76), (1, .int (-1)), (2, .int (nI k.2.2.2)), (3, .int (nI k.2.2.2))] [] (mm Iz J t) _
            exact zV_return dX7_readItem_129 rfl (⟨Iz, rfl, rfl, rdn_bad (I1 := (up2 (up2 (up2 (up2 I 76 15 (nI 1)) 76 15 (nI 1)) 76 15 (nI 1)) 76 15 (nI 1))) hf98 hk98 hw98 (fun i h1 => by funext z; exact up2_ni h1) hz (show rItem tp L k τ = (false, k, τ) from (if_neg h7).trans (if_neg hB25))⟩)
