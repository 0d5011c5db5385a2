/-! TEXTS: items of the class; text of the class -/
def frT (I I' : Nat → Nat → Int32) : Prop := (∀ i, (i < 14 ∨ 27 ≤ i) → i ≠ 41 → I' i = I i) ∧ I' 41 1 = I 41 1
theorem frT.rf {I : Nat → Nat → Int32} : frT I I := ⟨fun _ _ _ => rfl, rfl⟩
theorem frT.tr {I I' I'' : Nat → Nat → Int32} (h : frT I I') (h' : frT I' I'') : frT I I'' := ⟨fun i a b => (h'.1 i a b).trans (h.1 i a b), h'.2.trans h.2⟩
theorem frT.t41 {I I' I'' : Nat → Nat → Int32} (h : frT I I') (h' : fr41 I' I'') : frT I I'' := ⟨fun i a b => (h'.1 i b).trans (h.1 i a b), h'.2.trans h.2⟩
theorem frT.tl {I I' I'' : Nat → Nat → Int32} (h : frT I I') (h' : ∀ i, (i < 14 ∨ 27 ≤ i) → I'' i = I' i) : frT I I'' := ⟨fun i a b => (h' i a).trans (h.1 i a b), by rw [h' 41 (by omega)]; exact h.2⟩
theorem frT.use {I I' : Nat → Nat → Int32} {tp : Nat → Nat} {L : Nat} (h : frT I I') (hr : rdC I tp L) : rdC I' tp L := hr.mv h.2 (h.1 40 (by omega) (by decide))
theorem tkC.mv {I I' : Nat → Nat → Int32} {k : aT} (h : tkC I k) (e : I' 41 = I 41) : tkC I' k := by
  unfold tkC
  rw [e]
  exact h
theorem absL.setc {I : Nat → Nat → Int32} {b c f v : Nat} {σ : aL} (h : absL I b σ) (hc : c < σ.1) : absL (up2 I (b + 3 + c) f (nI v)) b (ld_cset σ c (k_set (σ.2.1 c) f v)) := by
  refine h.cset (fun f' hf' => ?_) (fun i hi => by funext k; exact up2_ni hi)
  by_cases e : f' = f
  · rw [e, up2_same]
    simp [k_set]
  · rw [up2_nk e, h.2.1 c hc f' hf']
    simp [k_set, e]
theorem c_isNum {G : mG} {I : Nat → Nat → Int32} {J : Nat → Nat → Int64} {t L m : Nat} {k : aT} (h : tkC I k) (ho : okT L k) (hm : m < 2 ^ 31) : zC G yX3_isNumber (eX3_isNumber (g_rmv 0)) [.ref 41, .int (nI m)] (mm I J t) (fun r M => r = some (.int (b2 (num k m))) ∧ M = mm I J t) := by
  have h4 := ho.2.2.2
  exact zC_mono (fun r M q => ⟨q.1.trans (congrArg (fun x => some (Value.int x)) (b2_congr ⟨fun z => ⟨z.1, (nI_leI (by omega) hm).mp z.2⟩, fun z => ⟨z.1, (nI_leI (by omega) hm).mpr z.2⟩⟩)), q.2⟩) (c_isNumber h ho)
theorem c_isNumC {G : mG} {I : Nat → Nat → Int32} {J : Nat → Nat → Int64} {t L n : Nat} {k : aT} (h : tkC I k) (ho : okT L k) (hn : n ≤ 10) : zC G yX3_isNumber (eX3_isNumber (g_rmv 0)) [.ref 41, .int (nI n - nI 1)] (mm I J t) (fun r M => r = some (.int (b2 (k.1 = 2 ∧ k.2.2.2 < n))) ∧ M = mm I J t) := by
  have h4 := ho.2.2.2
  have e : (nI n - nI 1).toInt = (n : Int) - 1 := pk_sub_toInt (by omega) (by decide)
  have e2 : nI k.2.2.2 ≤ nI n - nI 1 ↔ k.2.2.2 < n := by
    rw [Int32.le_iff_toInt_le, e, nI_toInt (by omega)]
    omega
  exact zC_mono (fun r M q => ⟨q.1.trans (congrArg (fun x => some (Value.int x)) (b2_congr ⟨fun z => ⟨z.1, e2.mp z.2⟩, fun z => ⟨z.1, e2.mpr z.2⟩⟩)), q.2⟩) (c_isNumber h ho)
theorem c_nameOf {G : mG} {I : Nat → Nat → Int32} {J : Nat → Nat → Int64} {t c : Nat} (hc : c < 7) : zC G yX3_nameOf (eX3_nameOf (g_rmv 0)) [.int (nI c)] (mm I J t) (fun r M => r = some (.ref (1000 + c)) ∧ M = mm I J t) := by
  rcases (show c = 0 ∨ c = 1 ∨ c = 2 ∨ c = 3 ∨ c = 4 ∨ c = 5 ∨ c = 6 by omega) with rfl | rfl | rfl | rfl | rfl | rfl | rfl
  · exact c_nameOf0
  · exact c_nameOf1
  · exact c_nameOf2
  · exact c_nameOf3
  · exact c_nameOf4
  · exact c_nameOf5
  · exact c_nameOf6
theorem Rf_40 (t : Nat) : up2 (Rf t) 41 0 (some 40) = Rf 40 := by
  funext i k
  by_cases e : i = 41
  · subst e
    by_cases e0 : k = 0
    · subst e0
      rw [up2_same]
      rfl
    · rw [up2_nk e0]
      obtain ⟨k', rfl⟩ : ∃ k', k = k' + 1 := ⟨k - 1, by omega⟩
      rfl
  · rw [up2_ni e]
    unfold Rf
    simp only [e, if_false]
theorem rShip_wf {tp : Nat → Nat} {L n B : Nat} {k : aT} {σ : aL} (h : wfL B σ) (hn : n < σ.1) : wfL B (rShip tp L k σ n).2.2 := by
  unfold rShip
  have w := h.2.1 n hn
  split
  · exact wf_cset (k := k_set (σ.2.1 n) 4 1) h ⟨w.1, w.2.1, w.2.2.1, w.2.2.2.1, (by show 1 < 2; decide), w.2.2.2.2.2.1, w.2.2.2.2.2.2⟩ (Nat.le_refl _)
  · exact h
theorem rItem_wf {tp : Nat → Nat} {L B : Nat} {k : aT} {σ : aL} (h : wfL B σ) (hB : B + 2 < 1000000) : wfL (B + 2) (rItem tp L k σ).2.2 := by
  have hu := h.up (show B ≤ B + 2 by omega) hB
  unfold rItem
  split
  · rename_i h7
    unfold rCoin
    split
    · rename_i hn
      split
      · rename_i q1
        split
        · rename_i q2
          have ha := wf_add (kd := kdOf tp k) (kg := (nx tp L k).2.2.2) (sp := (nx tp L (nx tp L k)).2.2.2) hu hn h7 (by have := q1.2; omega) (by have := q2.2; omega)
          split
          · split
            · rename_i q3
              have w := ha.2.1 σ.1 (show σ.1 < σ.1 + 1 by omega)
              exact rShip_wf (wf_cset (k := k_set ((ld_add σ (kdOf tp k) (nx tp L k).2.2.2 (nx tp L (nx tp L k)).2.2.2).2.1 σ.1) 1 (nx tp L (nx tp L (nx tp L (nx tp L k)))).2.2.2) ha ⟨w.1, (show (nx tp L (nx tp L (nx tp L (nx tp L k)))).2.2.2 < 4 by have := q3.2; omega), w.2.2.1, w.2.2.2.1, w.2.2.2.2.1, w.2.2.2.2.2.1, w.2.2.2.2.2.2⟩ (Nat.le_refl _)) (show σ.1 < σ.1 + 1 by omega)
            · exact hu
          · exact rShip_wf ha (show σ.1 < σ.1 + 1 by omega)
        · exact hu
      · exact hu
    · exact hu
  · split
    · unfold rPay
      split
      · rename_i q1
        split
        · split
          · rename_i q3
            exact wf_cset hu (wf_pay (w := (nx tp L (nx tp L (nx tp L k))).2.2.2) (h.2.1 _ q1.2) hB (by have := q3.1.2; omega)) (Nat.le_refl _)
          · exact hu
        · exact hu
      · exact hu
    · exact hu
set_option maxRecDepth 100000 in
theorem c_readCoin {G : mG} {I : Nat → Nat → Int32} {J : Nat → Nat → Int64} {tp : Nat → Nat} {L B : Nat} {k : aT} {σ : aL} (hr : rdC I tp L) (hk : tkC I k) (ho : okT L k) (hA : absL I 14 σ) (hW : wfL B σ) {kd : Nat} (h7 : kd < 7) : zC G yX3_readCoin (eX3_readCoin (g_rmv 6)) [.ref 41, .ref 14, .int (nI kd)] (mm I J 40) (fun r M => ∃ I', r = some (.int (b2 ((rCoin tp L kd k σ).1 = true))) ∧ M = mm I' J 40 ∧ tkC I' (rCoin tp L kd k σ).2.1 ∧ ((rCoin tp L kd k σ).1 = true → absL I' 14 (rCoin tp L kd k σ).2.2) ∧ frT I I') := by
  refine zC_of (by decide +kernel) rfl (by decide) (Nat.le_of_ble_eq_true rfl) ?_
  have n10 := hW.1
  have vb0 := ho.2.2.2
  show zV G (eX3_readCoin (g_rmv 6)) (0, 0) 0 [(0, .ref 41), (1, .ref 14), (2, .int (nI kd))] [] (mm I J 40) _
  refine zV_aload_n dX3_readCoin_0 rfl 1 rfl rfl ?_
  refine zV_getI (x := (nI σ.1)) 2 dX3_readCoin_1 rfl fl_RX3_61 (sh_land (Or.inr (Or.inl rfl))) (by decide) rfl hA.1 ?_
  refine zV_bipush (v := (nI 10)) dX3_readCoin_4 rfl rfl ?_
  refine zN_icmp_lt (tgt := 11) dX3_readCoin_6 rfl rfl (by omega) (by omega) (fun h6 => ?_) (fun h6 => ?_)
  · skip
    refine zV_aload_n dX3_readCoin_11 rfl 0 rfl rfl ?_
    refine zV_callV (E' := eX3_step (g_rmv 1)) (av := []) (st := []) (b := 41) dX3_readCoin_12 rfl (k_RX3_37 _) rfl ⟨by decide, by decide⟩ ⟨by decide, by decide⟩ (Or.inl rfl) rfl (Nat.le_of_ble_eq_true rfl) rfl rfl rfl (c_step (tp := tp) (L := L) (s0 := k.1) (t0 := k.2.1) (b := k.2.2.1) (v0 := k.2.2.2) (frT.rf.use hr) ho.2.2.1 hk) (fun r12 M12 z => ?_)
    obtain ⟨I12, rfl, rfl, hT12, hF12⟩ := z
    have hk12 : tkC I12 (nx tp L k) := hT12
    have ok12 : okT L (nx tp L k) := nx_ok ho.2.2.1
    have hf12 := frT.rf.t41 hF12
    have hA12 := hA.mv hW.1 (fun i a b => hF12.1 i (by omega))
    have vb12 := ok12.2.2.2
    show zV G (eX3_readCoin (g_rmv 6)) (0, 0) 15 [(0, .ref 41), (1, .ref 14), (2, .int (nI kd))] [] (mm I12 J 40) _
    refine zV_aload_n dX3_readCoin_15 rfl 0 rfl rfl ?_
    refine zV_bipush (v := (nI 99)) dX3_readCoin_16 rfl rfl ?_
    refine zV_callV (E' := eX3_isNumber (g_rmv 0)) (av := [.int (nI 99)]) (st := []) (b := 41) dX3_readCoin_18 rfl (k_RX3_66 _) rfl ⟨by decide, by decide⟩ ⟨by decide, by decide⟩ (Or.inl rfl) rfl (Nat.le_of_ble_eq_true rfl) rfl rfl rfl (c_isNum (m := 99) hk12 ok12 (by decide)) (fun r18 M18 z => ?_)
    obtain ⟨rfl, rfl⟩ := z
    show zV G (eX3_readCoin (g_rmv 6)) (0, 0) 21 [(0, .ref 41), (1, .ref 14), (2, .int (nI kd))] [.int (b2 (num (nx tp L k) 99))] (mm I12 J 40) _
    refine zB_if_ne (tgt := 26) dX3_readCoin_21 rfl rfl  (fun h21 => ?_) (fun h21 => ?_)
    · skip
      refine zV_aload_n dX3_readCoin_26 rfl 0 rfl rfl ?_
      refine zV_getI (x := (nI ((nx tp L k).2.2.2))) 5 dX3_readCoin_27 rfl fl_RX3_28 rfl (by decide) rfl hk12.2.2.2 ?_
      refine zV_istore_n (lv' := [(0, .ref 41), (1, .ref 14), (2, .int (nI kd)), (3, .int (nI ((nx tp L k).2.2.2)))]) dX3_readCoin_30 rfl rfl (by decide) rfl ?_
      refine zV_aload_n dX3_readCoin_31 rfl 0 rfl rfl ?_
      refine zV_callV (E' := eX3_step (g_rmv 1)) (av := []) (st := []) (b := 41) dX3_readCoin_32 rfl (k_RX3_37 _) rfl ⟨by decide, by decide⟩ ⟨by decide, by decide⟩ (Or.inl rfl) rfl (Nat.le_of_ble_eq_true rfl) rfl rfl rfl (c_step (tp := tp) (L := L) (s0 := (nx tp L k).1) (t0 := (nx tp L k).2.1) (b := (nx tp L k).2.2.1) (v0 := (nx tp L k).2.2.2) (hf12.use hr) ok12.2.2.1 hk12) (fun r32 M32 z => ?_)
      obtain ⟨I32, rfl, rfl, hT32, hF32⟩ := z
      have hk32 : tkC I32 (nx tp L (nx tp L k)) := hT32
      have ok32 : okT L (nx tp L (nx tp L k)) := nx_ok ok12.2.2.1
      have hf32 := hf12.t41 hF32
      have hA32 := hA12.mv hW.1 (fun i a b => hF32.1 i (by omega))
      have vb32 := ok32.2.2.2
      show zV G (eX3_readCoin (g_rmv 6)) (0, 0) 35 [(0, .ref 41), (1, .ref 14), (2, .int (nI kd)), (3, .int (nI ((nx tp L k).2.2.2)))] [] (mm I32 J 40) _
      refine zV_aload_n dX3_readCoin_35 rfl 0 rfl rfl ?_
      refine zV_bipush (v := (nI 99)) dX3_readCoin_36 rfl rfl ?_
      refine zV_callV (E' := eX3_isNumber (g_rmv 0)) (av := [.int (nI 99)]) (st := []) (b := 41) dX3_readCoin_38 rfl (k_RX3_66 _) rfl ⟨by decide, by decide⟩ ⟨by decide, by decide⟩ (Or.inl rfl) rfl (Nat.le_of_ble_eq_true rfl) rfl rfl rfl (c_isNum (m := 99) hk32 ok32 (by decide)) (fun r38 M38 z => ?_)
      obtain ⟨rfl, rfl⟩ := z
      show zV G (eX3_readCoin (g_rmv 6)) (0, 0) 41 [(0, .ref 41), (1, .ref 14), (2, .int (nI kd)), (3, .int (nI ((nx tp L k).2.2.2)))] [.int (b2 (num (nx tp L (nx tp L k)) 99))] (mm I32 J 40) _
      refine zB_if_ne (tgt := 46) dX3_readCoin_41 rfl rfl  (fun h41 => ?_) (fun h41 => ?_)
      · skip
        refine zV_aload_n dX3_readCoin_46 rfl 1 rfl rfl ?_
        refine zV_getrX (q' := (14 + 1)) 0 dX3_readCoin_47 rfl fl_RX3_70 (sh_land (Or.inr (Or.inl rfl))) (by decide) rfl (R_coins (Or.inr (Or.inl rfl))) ?_
        refine zV_aload_n dX3_readCoin_50 rfl 1 rfl rfl ?_
        refine zV_iload_n dX3_readCoin_51 rfl 2 rfl rfl ?_
        refine zV_iload_n dX3_readCoin_52 rfl 3 rfl rfl ?_
        refine zV_aload_n dX3_readCoin_53 rfl 0 rfl rfl ?_
        refine zV_getI (x := (nI ((nx tp L (nx tp L k)).2.2.2))) 5 dX3_readCoin_54 rfl fl_RX3_28 rfl (by decide) rfl hk32.2.2.2 ?_
        refine zV_callV (E' := eX1_addCoin (g_rmv 0)) (av := [.int (nI kd), .int (nI ((nx tp L k).2.2.2)), .int (nI ((nx tp L (nx tp L k)).2.2.2))]) (st := [.ref (14 + 1)]) (b := 14) dX3_readCoin_57 rfl (k_RX3_74 _) rfl ⟨by decide, by decide⟩ ⟨by decide, by decide⟩ (Or.inl rfl) rfl (Nat.le_of_ble_eq_true rfl) (sh_land (Or.inr (Or.inl rfl))) rfl rfl (c_addCoin (kd := kd) (kg := (nx tp L k).2.2.2) (sp := (nx tp L (nx tp L k)).2.2.2) (Or.inr (Or.inl rfl)) hA32 hW (by omega)) (fun r57 M57 z => ?_)
        obtain ⟨I57, rfl, rfl, hA57, hF57⟩ := z
        have hk57 := hk32.mv (hF57 41 (by omega))
        have hf57 := hf32.tl (fun i hi => hF57 i (by omega))
        have n57 : (ld_add σ kd (nx tp L k).2.2.2 (nx tp L (nx tp L k)).2.2.2).1 ≤ 10 := by show σ.1 + 1 ≤ 10; omega
        show zV G (eX3_readCoin (g_rmv 6)) (0, 0) 60 [(0, .ref 41), (1, .ref 14), (2, .int (nI kd)), (3, .int (nI ((nx tp L k).2.2.2)))] [.int (nI σ.1), .ref (14 + 1)] (mm I57 J 40) _
        refine zV_aaload (q' := (14 + 3 + σ.1)) σ.1 dX3_readCoin_60 rfl (sh_coins (Or.inr (Or.inl rfl))) rfl (by decide) rfl (by omega) (by decide) (R_coin (Or.inr (Or.inl rfl)) (by omega)) ?_
        refine zV_astore (lv' := [(0, .ref 41), (1, .ref 14), (2, .int (nI kd)), (3, .int (nI ((nx tp L k).2.2.2))), (4, .ref (14 + 3 + σ.1))]) dX3_readCoin_61 rfl (by decide) rfl ?_
        refine zV_aload_n dX3_readCoin_63 rfl 0 rfl rfl ?_
        refine zV_callV (E' := eX3_step (g_rmv 1)) (av := []) (st := []) (b := 41) dX3_readCoin_64 rfl (k_RX3_37 _) rfl ⟨by decide, by decide⟩ ⟨by decide, by decide⟩ (Or.inl rfl) rfl (Nat.le_of_ble_eq_true rfl) rfl rfl rfl (c_step (tp := tp) (L := L) (s0 := (nx tp L (nx tp L k)).1) (t0 := (nx tp L (nx tp L k)).2.1) (b := (nx tp L (nx tp L k)).2.2.1) (v0 := (nx tp L (nx tp L k)).2.2.2) (hf57.use hr) ok32.2.2.1 hk57) (fun r64 M64 z => ?_)
        obtain ⟨I64, rfl, rfl, hT64, hF64⟩ := z
        have hk64 : tkC I64 (nx tp L (nx tp L (nx tp L k))) := hT64
        have ok64 : okT L (nx tp L (nx tp L (nx tp L k))) := nx_ok ok32.2.2.1
        have hf64 := hf57.t41 hF64
        have hA64 := hA57.mv n57 (fun i a b => hF64.1 i (by omega))
        have vb64 := ok64.2.2.2
        show zV G (eX3_readCoin (g_rmv 6)) (0, 0) 67 [(0, .ref 41), (1, .ref 14), (2, .int (nI kd)), (3, .int (nI ((nx tp L k).2.2.2))), (4, .ref (14 + 3 + σ.1))] [] (mm I64 J 40) _
        refine zV_aload_n dX3_readCoin_67 rfl 0 rfl rfl ?_
        refine zV_ldcS (i := 9) (tx := "in") dX3_readCoin_68 rfl (by decide) ?_
        refine zV_callV (E' := eX3_isWord (g_rmv 5)) (av := [.ref (1000 + 9)]) (st := []) (b := 41) dX3_readCoin_70 rfl (k_RX3_48 _) rfl ⟨by decide, by decide⟩ ⟨by decide, by decide⟩ (Or.inl rfl) rfl (Nat.le_of_ble_eq_true rfl) rfl rfl rfl (c_isWord (t := 9) (hf64.use hr) hk64 ok64 (by decide)) (fun r70 M70 z => ?_)
        obtain ⟨rfl, rfl⟩ := z
        show zV G (eX3_readCoin (g_rmv 6)) (0, 0) 73 [(0, .ref 41), (1, .ref 14), (2, .int (nI kd)), (3, .int (nI ((nx tp L k).2.2.2))), (4, .ref (14 + 3 + σ.1))] [.int (b2 (isW tp (nx tp L (nx tp L (nx tp L k))) 9))] (mm I64 J 40) _
        refine zB_if_eq (tgt := 103) dX3_readCoin_73 rfl rfl  (fun h73 => ?_) (fun h73 => ?_)
        · skip
          refine zV_aload_n dX3_readCoin_103 rfl 0 rfl rfl ?_
          refine zV_ldcS (i := 10) (tx := "ship") dX3_readCoin_104 rfl (by decide) ?_
          refine zV_callV (E' := eX3_isWord (g_rmv 5)) (av := [.ref (1000 + 10)]) (st := []) (b := 41) dX3_readCoin_106 rfl (k_RX3_48 _) rfl ⟨by decide, by decide⟩ ⟨by decide, by decide⟩ (Or.inl rfl) rfl (Nat.le_of_ble_eq_true rfl) rfl rfl rfl (c_isWord (t := 10) (hf64.use hr) hk64 ok64 (by decide)) (fun r106 M106 z => ?_)
          obtain ⟨rfl, rfl⟩ := z
          show zV G (eX3_readCoin (g_rmv 6)) (0, 0) 109 [(0, .ref 41), (1, .ref 14), (2, .int (nI kd)), (3, .int (nI ((nx tp L k).2.2.2))), (4, .ref (14 + 3 + σ.1))] [.int (b2 (isW tp (nx tp L (nx tp L (nx tp L k))) 10))] (mm I64 J 40) _
          refine zB_if_eq (tgt := 122) dX3_readCoin_109 rfl rfl  (fun h109 => ?_) (fun h109 => ?_)
          · skip
            refine zV_iconst (v := (nI 1)) dX3_readCoin_122 rfl rfl ?_
            exact zV_ireturn dX3_readCoin_123 rfl rfl (⟨_, by rw [(show rCoin tp L kd k σ = (true, (nx tp L (nx tp L (nx tp L k))), (ld_add σ kd (nx tp L k).2.2.2 (nx tp L (nx tp L k)).2.2.2)) from (if_pos h6).trans ((if_pos h21).trans ((if_pos h41).trans ((if_neg h73).trans (if_neg h109)))))]; rfl, rfl, by rw [(show rCoin tp L kd k σ = (true, (nx tp L (nx tp L (nx tp L k))), (ld_add σ kd (nx tp L k).2.2.2 (nx tp L (nx tp L k)).2.2.2)) from (if_pos h6).trans ((if_pos h21).trans ((if_pos h41).trans ((if_neg h73).trans (if_neg h109)))))]; exact hk64, by rw [(show rCoin tp L kd k σ = (true, (nx tp L (nx tp L (nx tp L k))), (ld_add σ kd (nx tp L k).2.2.2 (nx tp L (nx tp L k)).2.2.2)) from (if_pos h6).trans ((if_pos h21).trans ((if_pos h41).trans ((if_neg h73).trans (if_neg h109)))))]; exact fun _ => hA64, hf64⟩)
          · skip
            refine zV_aload dX3_readCoin_112 rfl 4 rfl ?_
            refine zV_iconst (v := (nI 1)) dX3_readCoin_114 rfl rfl ?_
            refine zV_puti 4 dX3_readCoin_115 rfl fl_RX3_87 (sh_coin (Or.inr (Or.inl rfl)) (by omega)) (by decide) rfl rfl rfl ?_
            have hkw4 := hk64.mv (show (up2 I64 (14 + 3 + σ.1) 4 (nI 1)) 41 = _ from by funext z; exact up2_ni (by omega))
            have hfw4 := hf64.tl (fun i hi => (show (up2 I64 (14 + 3 + σ.1) 4 (nI 1)) i = _ from by funext z; exact up2_ni (by omega)))
            have hAw4 := hA64.setc (c := σ.1) (f := 4) (v := 1) (show σ.1 < σ.1 + 1 by omega)
            refine zV_aload_n dX3_readCoin_118 rfl 0 rfl rfl ?_
            refine zV_callV (E' := eX3_step (g_rmv 1)) (av := []) (st := []) (b := 41) dX3_readCoin_119 rfl (k_RX3_37 _) rfl ⟨by decide, by decide⟩ ⟨by decide, by decide⟩ (Or.inl rfl) rfl (Nat.le_of_ble_eq_true rfl) rfl rfl rfl (c_step (tp := tp) (L := L) (s0 := (nx tp L (nx tp L (nx tp L k))).1) (t0 := (nx tp L (nx tp L (nx tp L k))).2.1) (b := (nx tp L (nx tp L (nx tp L k))).2.2.1) (v0 := (nx tp L (nx tp L (nx tp L k))).2.2.2) (hfw4.use hr) ok64.2.2.1 hkw4) (fun r119 M119 z => ?_)
            obtain ⟨I119, rfl, rfl, hT119, hF119⟩ := z
            have hk119 : tkC I119 (nx tp L (nx tp L (nx tp L (nx tp L k)))) := hT119
            have ok119 : okT L (nx tp L (nx tp L (nx tp L (nx tp L k)))) := nx_ok ok64.2.2.1
            have hf119 := hfw4.t41 hF119
            have hA119 := hAw4.mv n57 (fun i a b => hF119.1 i (by omega))
            have vb119 := ok119.2.2.2
            show zV G (eX3_readCoin (g_rmv 6)) (0, 0) 122 [(0, .ref 41), (1, .ref 14), (2, .int (nI kd)), (3, .int (nI ((nx tp L k).2.2.2))), (4, .ref (14 + 3 + σ.1))] [] (mm I119 J 40) _
            refine zV_iconst (v := (nI 1)) dX3_readCoin_122 rfl rfl ?_
            exact zV_ireturn dX3_readCoin_123 rfl rfl (⟨_, by rw [(show rCoin tp L kd k σ = (true, (nx tp L (nx tp L (nx tp L (nx tp L k)))), (ld_cset (ld_add σ kd (nx tp L k).2.2.2 (nx tp L (nx tp L k)).2.2.2) σ.1 (k_set ((ld_add σ kd (nx tp L k).2.2.2 (nx tp L (nx tp L k)).2.2.2).2.1 σ.1) 4 1))) from (if_pos h6).trans ((if_pos h21).trans ((if_pos h41).trans ((if_neg h73).trans (if_pos h109)))))]; rfl, rfl, by rw [(show rCoin tp L kd k σ = (true, (nx tp L (nx tp L (nx tp L (nx tp L k)))), (ld_cset (ld_add σ kd (nx tp L k).2.2.2 (nx tp L (nx tp L k)).2.2.2) σ.1 (k_set ((ld_add σ kd (nx tp L k).2.2.2 (nx tp L (nx tp L k)).2.2.2).2.1 σ.1) 4 1))) from (if_pos h6).trans ((if_pos h21).trans ((if_pos h41).trans ((if_neg h73).trans (if_pos h109)))))]; exact hk119, by rw [(show rCoin tp L kd k σ = (true, (nx tp L (nx tp L (nx tp L (nx tp L k)))), (ld_cset (ld_add σ kd (nx tp L k).2.2.2 (nx tp L (nx tp L k)).2.2.2) σ.1 (k_set ((ld_add σ kd (nx tp L k).2.2.2 (nx tp L (nx tp L k)).2.2.2).2.1 σ.1) 4 1))) from (if_pos h6).trans ((if_pos h21).trans ((if_pos h41).trans ((if_neg h73).trans (if_pos h109)))))]; exact fun _ => hA119, hf119⟩)
        · skip
          refine zV_aload_n dX3_readCoin_76 rfl 0 rfl rfl ?_
          refine zV_callV (E' := eX3_step (g_rmv 1)) (av := []) (st := []) (b := 41) dX3_readCoin_77 rfl (k_RX3_37 _) rfl ⟨by decide, by decide⟩ ⟨by decide, by decide⟩ (Or.inl rfl) rfl (Nat.le_of_ble_eq_true rfl) rfl rfl rfl (c_step (tp := tp) (L := L) (s0 := (nx tp L (nx tp L (nx tp L k))).1) (t0 := (nx tp L (nx tp L (nx tp L k))).2.1) (b := (nx tp L (nx tp L (nx tp L k))).2.2.1) (v0 := (nx tp L (nx tp L (nx tp L k))).2.2.2) (hf64.use hr) ok64.2.2.1 hk64) (fun r77 M77 z => ?_)
          obtain ⟨I77, rfl, rfl, hT77, hF77⟩ := z
          have hk77 : tkC I77 (nx tp L (nx tp L (nx tp L (nx tp L k)))) := hT77
          have ok77 : okT L (nx tp L (nx tp L (nx tp L (nx tp L k)))) := nx_ok ok64.2.2.1
          have hf77 := hf64.t41 hF77
          have hA77 := hA64.mv n57 (fun i a b => hF77.1 i (by omega))
          have vb77 := ok77.2.2.2
          show zV G (eX3_readCoin (g_rmv 6)) (0, 0) 80 [(0, .ref 41), (1, .ref 14), (2, .int (nI kd)), (3, .int (nI ((nx tp L k).2.2.2))), (4, .ref (14 + 3 + σ.1))] [] (mm I77 J 40) _
          refine zV_aload_n dX3_readCoin_80 rfl 0 rfl rfl ?_
          refine zV_iconst (v := (nI 3)) dX3_readCoin_81 rfl rfl ?_
          refine zV_callV (E' := eX3_isNumber (g_rmv 0)) (av := [.int (nI 3)]) (st := []) (b := 41) dX3_readCoin_82 rfl (k_RX3_66 _) rfl ⟨by decide, by decide⟩ ⟨by decide, by decide⟩ (Or.inl rfl) rfl (Nat.le_of_ble_eq_true rfl) rfl rfl rfl (c_isNum (m := 3) hk77 ok77 (by decide)) (fun r82 M82 z => ?_)
          obtain ⟨rfl, rfl⟩ := z
          show zV G (eX3_readCoin (g_rmv 6)) (0, 0) 85 [(0, .ref 41), (1, .ref 14), (2, .int (nI kd)), (3, .int (nI ((nx tp L k).2.2.2))), (4, .ref (14 + 3 + σ.1))] [.int (b2 (num (nx tp L (nx tp L (nx tp L (nx tp L k)))) 3))] (mm I77 J 40) _
          refine zB_if_ne (tgt := 90) dX3_readCoin_85 rfl rfl  (fun h85 => ?_) (fun h85 => ?_)
          · skip
            refine zV_aload dX3_readCoin_90 rfl 4 rfl ?_
            refine zV_aload_n dX3_readCoin_92 rfl 0 rfl rfl ?_
            refine zV_getI (x := (nI ((nx tp L (nx tp L (nx tp L (nx tp L k)))).2.2.2))) 5 dX3_readCoin_93 rfl fl_RX3_28 rfl (by decide) rfl hk77.2.2.2 ?_
            refine zV_puti 1 dX3_readCoin_96 rfl fl_RX3_80 (sh_coin (Or.inr (Or.inl rfl)) (by omega)) (by decide) rfl rfl rfl ?_
            have hkw1 := hk77.mv (show (up2 I77 (14 + 3 + σ.1) 1 (nI ((nx tp L (nx tp L (nx tp L (nx tp L k)))).2.2.2))) 41 = _ from by funext z; exact up2_ni (by omega))
            have hfw1 := hf77.tl (fun i hi => (show (up2 I77 (14 + 3 + σ.1) 1 (nI ((nx tp L (nx tp L (nx tp L (nx tp L k)))).2.2.2))) i = _ from by funext z; exact up2_ni (by omega)))
            have hAw1 := hA77.setc (c := σ.1) (f := 1) (v := (nx tp L (nx tp L (nx tp L (nx tp L k)))).2.2.2) (show σ.1 < σ.1 + 1 by omega)
            refine zV_aload_n dX3_readCoin_99 rfl 0 rfl rfl ?_
            refine zV_callV (E' := eX3_step (g_rmv 1)) (av := []) (st := []) (b := 41) dX3_readCoin_100 rfl (k_RX3_37 _) rfl ⟨by decide, by decide⟩ ⟨by decide, by decide⟩ (Or.inl rfl) rfl (Nat.le_of_ble_eq_true rfl) rfl rfl rfl (c_step (tp := tp) (L := L) (s0 := (nx tp L (nx tp L (nx tp L (nx tp L k)))).1) (t0 := (nx tp L (nx tp L (nx tp L (nx tp L k)))).2.1) (b := (nx tp L (nx tp L (nx tp L (nx tp L k)))).2.2.1) (v0 := (nx tp L (nx tp L (nx tp L (nx tp L k)))).2.2.2) (hfw1.use hr) ok77.2.2.1 hkw1) (fun r100 M100 z => ?_)
            obtain ⟨I100, rfl, rfl, hT100, hF100⟩ := z
            have hk100 : tkC I100 (nx tp L (nx tp L (nx tp L (nx tp L (nx tp L k))))) := hT100
            have ok100 : okT L (nx tp L (nx tp L (nx tp L (nx tp L (nx tp L k))))) := nx_ok ok77.2.2.1
            have hf100 := hfw1.t41 hF100
            have hA100 := hAw1.mv n57 (fun i a b => hF100.1 i (by omega))
            have vb100 := ok100.2.2.2
            show zV G (eX3_readCoin (g_rmv 6)) (0, 0) 103 [(0, .ref 41), (1, .ref 14), (2, .int (nI kd)), (3, .int (nI ((nx tp L k).2.2.2))), (4, .ref (14 + 3 + σ.1))] [] (mm I100 J 40) _
            refine zV_aload_n dX3_readCoin_103 rfl 0 rfl rfl ?_
            refine zV_ldcS (i := 10) (tx := "ship") dX3_readCoin_104 rfl (by decide) ?_
            refine zV_callV (E' := eX3_isWord (g_rmv 5)) (av := [.ref (1000 + 10)]) (st := []) (b := 41) dX3_readCoin_106 rfl (k_RX3_48 _) rfl ⟨by decide, by decide⟩ ⟨by decide, by decide⟩ (Or.inl rfl) rfl (Nat.le_of_ble_eq_true rfl) rfl rfl rfl (c_isWord (t := 10) (hf100.use hr) hk100 ok100 (by decide)) (fun r106 M106 z => ?_)
            obtain ⟨rfl, rfl⟩ := z
            show zV G (eX3_readCoin (g_rmv 6)) (0, 0) 109 [(0, .ref 41), (1, .ref 14), (2, .int (nI kd)), (3, .int (nI ((nx tp L k).2.2.2))), (4, .ref (14 + 3 + σ.1))] [.int (b2 (isW tp (nx tp L (nx tp L (nx tp L (nx tp L (nx tp L k))))) 10))] (mm I100 J 40) _
            refine zB_if_eq (tgt := 122) dX3_readCoin_109 rfl rfl  (fun h109 => ?_) (fun h109 => ?_)
            · skip
              refine zV_iconst (v := (nI 1)) dX3_readCoin_122 rfl rfl ?_
              exact zV_ireturn dX3_readCoin_123 rfl rfl (⟨_, by rw [(show rCoin tp L kd k σ = (true, (nx tp L (nx tp L (nx tp L (nx tp L (nx tp L k))))), (ld_cset (ld_add σ kd (nx tp L k).2.2.2 (nx tp L (nx tp L k)).2.2.2) σ.1 (k_set ((ld_add σ kd (nx tp L k).2.2.2 (nx tp L (nx tp L k)).2.2.2).2.1 σ.1) 1 ((nx tp L (nx tp L (nx tp L (nx tp L k)))).2.2.2)))) from (if_pos h6).trans ((if_pos h21).trans ((if_pos h41).trans ((if_pos h73).trans ((if_pos h85).trans (if_neg h109))))))]; rfl, rfl, by rw [(show rCoin tp L kd k σ = (true, (nx tp L (nx tp L (nx tp L (nx tp L (nx tp L k))))), (ld_cset (ld_add σ kd (nx tp L k).2.2.2 (nx tp L (nx tp L k)).2.2.2) σ.1 (k_set ((ld_add σ kd (nx tp L k).2.2.2 (nx tp L (nx tp L k)).2.2.2).2.1 σ.1) 1 ((nx tp L (nx tp L (nx tp L (nx tp L k)))).2.2.2)))) from (if_pos h6).trans ((if_pos h21).trans ((if_pos h41).trans ((if_pos h73).trans ((if_pos h85).trans (if_neg h109))))))]; exact hk100, by rw [(show rCoin tp L kd k σ = (true, (nx tp L (nx tp L (nx tp L (nx tp L (nx tp L k))))), (ld_cset (ld_add σ kd (nx tp L k).2.2.2 (nx tp L (nx tp L k)).2.2.2) σ.1 (k_set ((ld_add σ kd (nx tp L k).2.2.2 (nx tp L (nx tp L k)).2.2.2).2.1 σ.1) 1 ((nx tp L (nx tp L (nx tp L (nx tp L k)))).2.2.2)))) from (if_pos h6).trans ((if_pos h21).trans ((if_pos h41).trans ((if_pos h73).trans ((if_pos h85).trans (if_neg h109))))))]; exact fun _ => hA100, hf100⟩)
            · skip
              refine zV_aload dX3_readCoin_112 rfl 4 rfl ?_
              refine zV_iconst (v := (nI 1)) dX3_readCoin_114 rfl rfl ?_
              refine zV_puti 4 dX3_readCoin_115 rfl fl_RX3_87 (sh_coin (Or.inr (Or.inl rfl)) (by omega)) (by decide) rfl rfl rfl ?_
              have hkw4 := hk100.mv (show (up2 I100 (14 + 3 + σ.1) 4 (nI 1)) 41 = _ from by funext z; exact up2_ni (by omega))
              have hfw4 := hf100.tl (fun i hi => (show (up2 I100 (14 + 3 + σ.1) 4 (nI 1)) i = _ from by funext z; exact up2_ni (by omega)))
              have hAw4 := hA100.setc (c := σ.1) (f := 4) (v := 1) (show σ.1 < σ.1 + 1 by omega)
              refine zV_aload_n dX3_readCoin_118 rfl 0 rfl rfl ?_
              refine zV_callV (E' := eX3_step (g_rmv 1)) (av := []) (st := []) (b := 41) dX3_readCoin_119 rfl (k_RX3_37 _) rfl ⟨by decide, by decide⟩ ⟨by decide, by decide⟩ (Or.inl rfl) rfl (Nat.le_of_ble_eq_true rfl) rfl rfl rfl (c_step (tp := tp) (L := L) (s0 := (nx tp L (nx tp L (nx tp L (nx tp L (nx tp L k))))).1) (t0 := (nx tp L (nx tp L (nx tp L (nx tp L (nx tp L k))))).2.1) (b := (nx tp L (nx tp L (nx tp L (nx tp L (nx tp L k))))).2.2.1) (v0 := (nx tp L (nx tp L (nx tp L (nx tp L (nx tp L k))))).2.2.2) (hfw4.use hr) ok100.2.2.1 hkw4) (fun r119 M119 z => ?_)
              obtain ⟨I119, rfl, rfl, hT119, hF119⟩ := z
              have hk119 : tkC I119 (nx tp L (nx tp L (nx tp L (nx tp L (nx tp L (nx tp L k)))))) := hT119
              have ok119 : okT L (nx tp L (nx tp L (nx tp L (nx tp L (nx tp L (nx tp L k)))))) := nx_ok ok100.2.2.1
              have hf119 := hfw4.t41 hF119
              have hA119 := hAw4.mv n57 (fun i a b => hF119.1 i (by omega))
              have vb119 := ok119.2.2.2
              show zV G (eX3_readCoin (g_rmv 6)) (0, 0) 122 [(0, .ref 41), (1, .ref 14), (2, .int (nI kd)), (3, .int (nI ((nx tp L k).2.2.2))), (4, .ref (14 + 3 + σ.1))] [] (mm I119 J 40) _
              refine zV_iconst (v := (nI 1)) dX3_readCoin_122 rfl rfl ?_
              exact zV_ireturn dX3_readCoin_123 rfl rfl (⟨_, by rw [(show rCoin tp L kd k σ = (true, (nx tp L (nx tp L (nx tp L (nx tp L (nx tp L (nx tp L k)))))), (ld_cset (ld_cset (ld_add σ kd (nx tp L k).2.2.2 (nx tp L (nx tp L k)).2.2.2) σ.1 (k_set ((ld_add σ kd (nx tp L k).2.2.2 (nx tp L (nx tp L k)).2.2.2).2.1 σ.1) 1 ((nx tp L (nx tp L (nx tp L (nx tp L k)))).2.2.2))) σ.1 (k_set ((ld_cset (ld_add σ kd (nx tp L k).2.2.2 (nx tp L (nx tp L k)).2.2.2) σ.1 (k_set ((ld_add σ kd (nx tp L k).2.2.2 (nx tp L (nx tp L k)).2.2.2).2.1 σ.1) 1 ((nx tp L (nx tp L (nx tp L (nx tp L k)))).2.2.2))).2.1 σ.1) 4 1))) from (if_pos h6).trans ((if_pos h21).trans ((if_pos h41).trans ((if_pos h73).trans ((if_pos h85).trans (if_pos h109))))))]; rfl, rfl, by rw [(show rCoin tp L kd k σ = (true, (nx tp L (nx tp L (nx tp L (nx tp L (nx tp L (nx tp L k)))))), (ld_cset (ld_cset (ld_add σ kd (nx tp L k).2.2.2 (nx tp L (nx tp L k)).2.2.2) σ.1 (k_set ((ld_add σ kd (nx tp L k).2.2.2 (nx tp L (nx tp L k)).2.2.2).2.1 σ.1) 1 ((nx tp L (nx tp L (nx tp L (nx tp L k)))).2.2.2))) σ.1 (k_set ((ld_cset (ld_add σ kd (nx tp L k).2.2.2 (nx tp L (nx tp L k)).2.2.2) σ.1 (k_set ((ld_add σ kd (nx tp L k).2.2.2 (nx tp L (nx tp L k)).2.2.2).2.1 σ.1) 1 ((nx tp L (nx tp L (nx tp L (nx tp L k)))).2.2.2))).2.1 σ.1) 4 1))) from (if_pos h6).trans ((if_pos h21).trans ((if_pos h41).trans ((if_pos h73).trans ((if_pos h85).trans (if_pos h109))))))]; exact hk119, by rw [(show rCoin tp L kd k σ = (true, (nx tp L (nx tp L (nx tp L (nx tp L (nx tp L (nx tp L k)))))), (ld_cset (ld_cset (ld_add σ kd (nx tp L k).2.2.2 (nx tp L (nx tp L k)).2.2.2) σ.1 (k_set ((ld_add σ kd (nx tp L k).2.2.2 (nx tp L (nx tp L k)).2.2.2).2.1 σ.1) 1 ((nx tp L (nx tp L (nx tp L (nx tp L k)))).2.2.2))) σ.1 (k_set ((ld_cset (ld_add σ kd (nx tp L k).2.2.2 (nx tp L (nx tp L k)).2.2.2) σ.1 (k_set ((ld_add σ kd (nx tp L k).2.2.2 (nx tp L (nx tp L k)).2.2.2).2.1 σ.1) 1 ((nx tp L (nx tp L (nx tp L (nx tp L k)))).2.2.2))).2.1 σ.1) 4 1))) from (if_pos h6).trans ((if_pos h21).trans ((if_pos h41).trans ((if_pos h73).trans ((if_pos h85).trans (if_pos h109))))))]; exact fun _ => hA119, hf119⟩)
          · skip
            refine zV_iconst (v := (nI 0)) dX3_readCoin_88 rfl rfl ?_
            exact zV_ireturn dX3_readCoin_89 rfl rfl (⟨_, by rw [(show rCoin tp L kd k σ = (false, (nx tp L (nx tp L (nx tp L (nx tp L k)))), σ) from (if_pos h6).trans ((if_pos h21).trans ((if_pos h41).trans ((if_pos h73).trans (if_neg h85)))))]; rfl, rfl, by rw [(show rCoin tp L kd k σ = (false, (nx tp L (nx tp L (nx tp L (nx tp L k)))), σ) from (if_pos h6).trans ((if_pos h21).trans ((if_pos h41).trans ((if_pos h73).trans (if_neg h85)))))]; exact hk77, by rw [(show rCoin tp L kd k σ = (false, (nx tp L (nx tp L (nx tp L (nx tp L k)))), σ) from (if_pos h6).trans ((if_pos h21).trans ((if_pos h41).trans ((if_pos h73).trans (if_neg h85)))))]; exact (fun z => by cases z), hf77⟩)
      · skip
        refine zV_iconst (v := (nI 0)) dX3_readCoin_44 rfl rfl ?_
        exact zV_ireturn dX3_readCoin_45 rfl rfl (⟨_, by rw [(show rCoin tp L kd k σ = (false, (nx tp L (nx tp L k)), σ) from (if_pos h6).trans ((if_pos h21).trans (if_neg h41)))]; rfl, rfl, by rw [(show rCoin tp L kd k σ = (false, (nx tp L (nx tp L k)), σ) from (if_pos h6).trans ((if_pos h21).trans (if_neg h41)))]; exact hk32, by rw [(show rCoin tp L kd k σ = (false, (nx tp L (nx tp L k)), σ) from (if_pos h6).trans ((if_pos h21).trans (if_neg h41)))]; exact (fun z => by cases z), hf32⟩)
    · skip
      refine zV_iconst (v := (nI 0)) dX3_readCoin_24 rfl rfl ?_
      exact zV_ireturn dX3_readCoin_25 rfl rfl (⟨_, by rw [(show rCoin tp L kd k σ = (false, (nx tp L k), σ) from (if_pos h6).trans (if_neg h21))]; rfl, rfl, by rw [(show rCoin tp L kd k σ = (false, (nx tp L k), σ) from (if_pos h6).trans (if_neg h21))]; exact hk12, by rw [(show rCoin tp L kd k σ = (false, (nx tp L k), σ) from (if_pos h6).trans (if_neg h21))]; exact (fun z => by cases z), hf12⟩)
  · skip
    refine zV_iconst (v := (nI 0)) dX3_readCoin_9 rfl rfl ?_
    exact zV_ireturn dX3_readCoin_10 rfl rfl (⟨_, by rw [(show rCoin tp L kd k σ = (false, k, σ) from if_neg (by omega))]; rfl, rfl, by rw [(show rCoin tp L kd k σ = (false, k, σ) from if_neg (by omega))]; exact hk, by rw [(show rCoin tp L kd k σ = (false, k, σ) from if_neg (by omega))]; exact (fun z => by cases z), frT.rf⟩)

set_option maxRecDepth 100000 in
theorem c_readPay {G : mG} {I : Nat → Nat → Int32} {J : Nat → Nat → Int64} {tp : Nat → Nat} {L B : Nat} {k : aT} {σ : aL} (hr : rdC I tp L) (hk : tkC I k) (ho : okT L k) (hA : absL I 14 σ) (hW : wfL B σ) : zC G yX3_readPay (eX3_readPay (g_rmv 6)) [.ref 41, .ref 14] (mm I J 40) (fun r M => ∃ I', r = some (.int (b2 ((rPay tp L k σ).1 = true))) ∧ M = mm I' J 40 ∧ tkC I' (rPay tp L k σ).2.1 ∧ ((rPay tp L k σ).1 = true → absL I' 14 (rPay tp L k σ).2.2) ∧ frT I I') := by
  refine zC_of (by decide +kernel) rfl (by decide) (Nat.le_of_ble_eq_true rfl) ?_
  have n10 := hW.1
  have vb0 := ho.2.2.2
  show zV G (eX3_readPay (g_rmv 6)) (0, 0) 0 [(0, .ref 41), (1, .ref 14)] [] (mm I J 40) _
  refine zV_aload_n dX3_readPay_0 rfl 0 rfl rfl ?_
  refine zV_callV (E' := eX3_step (g_rmv 1)) (av := []) (st := []) (b := 41) dX3_readPay_1 rfl (k_RX3_37 _) rfl ⟨by decide, by decide⟩ ⟨by decide, by decide⟩ (Or.inl rfl) rfl (Nat.le_of_ble_eq_true rfl) rfl rfl rfl (c_step (tp := tp) (L := L) (s0 := k.1) (t0 := k.2.1) (b := k.2.2.1) (v0 := k.2.2.2) (frT.rf.use hr) ho.2.2.1 hk) (fun r1 M1 z => ?_)
  obtain ⟨I1, rfl, rfl, hT1, hF1⟩ := z
  have hk1 : tkC I1 (nx tp L k) := hT1
  have ok1 : okT L (nx tp L k) := nx_ok ho.2.2.1
  have hf1 := frT.rf.t41 hF1
  have hA1 := hA.mv hW.1 (fun i a b => hF1.1 i (by omega))
  have vb1 := ok1.2.2.2
  show zV G (eX3_readPay (g_rmv 6)) (0, 0) 4 [(0, .ref 41), (1, .ref 14)] [] (mm I1 J 40) _
  refine zV_aload_n dX3_readPay_4 rfl 0 rfl rfl ?_
  refine zV_aload_n dX3_readPay_5 rfl 1 rfl rfl ?_
  refine zV_getI (x := (nI σ.1)) 2 dX3_readPay_6 rfl fl_RX3_61 (sh_land (Or.inr (Or.inl rfl))) (by decide) rfl hA1.1 ?_
  refine zV_iconst (v := (nI 1)) dX3_readPay_9 rfl rfl ?_
  refine zA_isub (z := (nI σ.1 - nI 1)) dX3_readPay_10 rfl  (rfl) ?_
  refine zV_callV (E' := eX3_isNumber (g_rmv 0)) (av := [.int (nI σ.1 - nI 1)]) (st := []) (b := 41) dX3_readPay_11 rfl (k_RX3_66 _) rfl ⟨by decide, by decide⟩ ⟨by decide, by decide⟩ (Or.inl rfl) rfl (Nat.le_of_ble_eq_true rfl) rfl rfl rfl (c_isNumC (n := σ.1) hk1 ok1 hW.1) (fun r11 M11 z => ?_)
  obtain ⟨rfl, rfl⟩ := z
  show zV G (eX3_readPay (g_rmv 6)) (0, 0) 14 [(0, .ref 41), (1, .ref 14)] [.int (b2 ((nx tp L k).1 = 2 ∧ (nx tp L k).2.2.2 < σ.1))] (mm I1 J 40) _
  refine zB_if_ne (tgt := 19) dX3_readPay_14 rfl rfl  (fun h14 => ?_) (fun h14 => ?_)
  · have hv1 := h14.2
    refine zV_aload_n dX3_readPay_19 rfl 1 rfl rfl ?_
    refine zV_getrX (q' := (14 + 1)) 0 dX3_readPay_20 rfl fl_RX3_70 (sh_land (Or.inr (Or.inl rfl))) (by decide) rfl (R_coins (Or.inr (Or.inl rfl))) ?_
    refine zV_aload_n dX3_readPay_23 rfl 0 rfl rfl ?_
    refine zV_getI (x := (nI ((nx tp L k).2.2.2))) 5 dX3_readPay_24 rfl fl_RX3_28 rfl (by decide) rfl hk1.2.2.2 ?_
    refine zV_aaload (q' := (14 + 3 + ((nx tp L k).2.2.2))) ((nx tp L k).2.2.2) dX3_readPay_27 rfl (sh_coins (Or.inr (Or.inl rfl))) rfl (by decide) rfl (by omega) (by decide) (R_coin (Or.inr (Or.inl rfl)) (by omega)) ?_
    refine zV_astore_n (lv' := [(0, .ref 41), (1, .ref 14), (2, .ref (14 + 3 + ((nx tp L k).2.2.2)))]) dX3_readPay_28 rfl rfl (by decide) rfl ?_
    refine zV_aload_n dX3_readPay_29 rfl 0 rfl rfl ?_
    refine zV_callV (E' := eX3_step (g_rmv 1)) (av := []) (st := []) (b := 41) dX3_readPay_30 rfl (k_RX3_37 _) rfl ⟨by decide, by decide⟩ ⟨by decide, by decide⟩ (Or.inl rfl) rfl (Nat.le_of_ble_eq_true rfl) rfl rfl rfl (c_step (tp := tp) (L := L) (s0 := (nx tp L k).1) (t0 := (nx tp L k).2.1) (b := (nx tp L k).2.2.1) (v0 := (nx tp L k).2.2.2) (hf1.use hr) ok1.2.2.1 hk1) (fun r30 M30 z => ?_)
    obtain ⟨I30, rfl, rfl, hT30, hF30⟩ := z
    have hk30 : tkC I30 (nx tp L (nx tp L k)) := hT30
    have ok30 : okT L (nx tp L (nx tp L k)) := nx_ok ok1.2.2.1
    have hf30 := hf1.t41 hF30
    have hA30 := hA1.mv hW.1 (fun i a b => hF30.1 i (by omega))
    have vb30 := ok30.2.2.2
    show zV G (eX3_readPay (g_rmv 6)) (0, 0) 33 [(0, .ref 41), (1, .ref 14), (2, .ref (14 + 3 + ((nx tp L k).2.2.2)))] [] (mm I30 J 40) _
    refine zV_aload_n dX3_readPay_33 rfl 0 rfl rfl ?_
    refine zV_ldcS (i := 8) (tx := "to") dX3_readPay_34 rfl (by decide) ?_
    refine zV_callV (E' := eX3_isWord (g_rmv 5)) (av := [.ref (1000 + 8)]) (st := []) (b := 41) dX3_readPay_36 rfl (k_RX3_48 _) rfl ⟨by decide, by decide⟩ ⟨by decide, by decide⟩ (Or.inl rfl) rfl (Nat.le_of_ble_eq_true rfl) rfl rfl rfl (c_isWord (t := 8) (hf30.use hr) hk30 ok30 (by decide)) (fun r36 M36 z => ?_)
    obtain ⟨rfl, rfl⟩ := z
    show zV G (eX3_readPay (g_rmv 6)) (0, 0) 39 [(0, .ref 41), (1, .ref 14), (2, .ref (14 + 3 + ((nx tp L k).2.2.2)))] [.int (b2 (isW tp (nx tp L (nx tp L k)) 8))] (mm I30 J 40) _
    refine zB_if_ne (tgt := 44) dX3_readPay_39 rfl rfl  (fun h39 => ?_) (fun h39 => ?_)
    · skip
      refine zV_aload_n dX3_readPay_44 rfl 0 rfl rfl ?_
      refine zV_callV (E' := eX3_step (g_rmv 1)) (av := []) (st := []) (b := 41) dX3_readPay_45 rfl (k_RX3_37 _) rfl ⟨by decide, by decide⟩ ⟨by decide, by decide⟩ (Or.inl rfl) rfl (Nat.le_of_ble_eq_true rfl) rfl rfl rfl (c_step (tp := tp) (L := L) (s0 := (nx tp L (nx tp L k)).1) (t0 := (nx tp L (nx tp L k)).2.1) (b := (nx tp L (nx tp L k)).2.2.1) (v0 := (nx tp L (nx tp L k)).2.2.2) (hf30.use hr) ok30.2.2.1 hk30) (fun r45 M45 z => ?_)
      obtain ⟨I45, rfl, rfl, hT45, hF45⟩ := z
      have hk45 : tkC I45 (nx tp L (nx tp L (nx tp L k))) := hT45
      have ok45 : okT L (nx tp L (nx tp L (nx tp L k))) := nx_ok ok30.2.2.1
      have hf45 := hf30.t41 hF45
      have hA45 := hA30.mv hW.1 (fun i a b => hF45.1 i (by omega))
      have vb45 := ok45.2.2.2
      show zV G (eX3_readPay (g_rmv 6)) (0, 0) 48 [(0, .ref 41), (1, .ref 14), (2, .ref (14 + 3 + ((nx tp L k).2.2.2)))] [] (mm I45 J 40) _
      refine zV_aload_n dX3_readPay_48 rfl 0 rfl rfl ?_
      refine zV_iconst (v := (nI 3)) dX3_readPay_49 rfl rfl ?_
      refine zV_callV (E' := eX3_isNumber (g_rmv 0)) (av := [.int (nI 3)]) (st := []) (b := 41) dX3_readPay_50 rfl (k_RX3_66 _) rfl ⟨by decide, by decide⟩ ⟨by decide, by decide⟩ (Or.inl rfl) rfl (Nat.le_of_ble_eq_true rfl) rfl rfl rfl (c_isNum (m := 3) hk45 ok45 (by decide)) (fun r50 M50 z => ?_)
      obtain ⟨rfl, rfl⟩ := z
      show zV G (eX3_readPay (g_rmv 6)) (0, 0) 53 [(0, .ref 41), (1, .ref 14), (2, .ref (14 + 3 + ((nx tp L k).2.2.2)))] [.int (b2 (num (nx tp L (nx tp L (nx tp L k))) 3))] (mm I45 J 40) _
      refine zB_if_eq (tgt := 67) dX3_readPay_53 rfl rfl  (fun h53 => ?_) (fun h53 => ?_)
      · skip
        refine zV_iconst (v := (nI 0)) dX3_readPay_67 rfl rfl ?_
        exact zV_ireturn dX3_readPay_68 rfl rfl (⟨_, by rw [(show rPay tp L k σ = (false, (nx tp L (nx tp L (nx tp L k))), σ) from (if_pos h14).trans ((if_pos h39).trans (if_neg (fun z => h53 z.1))))]; rfl, rfl, by rw [(show rPay tp L k σ = (false, (nx tp L (nx tp L (nx tp L k))), σ) from (if_pos h14).trans ((if_pos h39).trans (if_neg (fun z => h53 z.1))))]; exact hk45, by rw [(show rPay tp L k σ = (false, (nx tp L (nx tp L (nx tp L k))), σ) from (if_pos h14).trans ((if_pos h39).trans (if_neg (fun z => h53 z.1))))]; exact (fun z => by cases z), hf45⟩)
      · skip
        refine zV_aload_n dX3_readPay_56 rfl 0 rfl rfl ?_
        refine zV_getI (x := (nI ((nx tp L (nx tp L (nx tp L k))).2.2.2))) 5 dX3_readPay_57 rfl fl_RX3_28 rfl (by decide) rfl hk45.2.2.2 ?_
        refine zV_aload_n dX3_readPay_60 rfl 2 rfl rfl ?_
        refine zV_getI (x := (nI (σ.2.1 ((nx tp L k).2.2.2) 1))) 1 dX3_readPay_61 rfl fl_RX3_80 (sh_coin (Or.inr (Or.inl rfl)) (by omega)) (by decide) rfl (hA45.2.1 ((nx tp L k).2.2.2) h14.2 1 (by decide)) ?_
        refine zN_icmp_ne (tgt := 69) dX3_readPay_64 rfl rfl (by omega) (by have := (hW.2.1 _ h14.2).2.1; omega) (fun h64 => ?_) (fun h64 => ?_)
        · skip
          refine zV_aload_n dX3_readPay_69 rfl 2 rfl rfl ?_
          refine zV_aload_n dX3_readPay_70 rfl 0 rfl rfl ?_
          refine zV_getI (x := (nI ((nx tp L (nx tp L (nx tp L k))).2.2.2))) 5 dX3_readPay_71 rfl fl_RX3_28 rfl (by decide) rfl hk45.2.2.2 ?_
          refine zV_callV (E' := eX0_payTo (g_rmv 2)) (av := [.int (nI ((nx tp L (nx tp L (nx tp L k))).2.2.2))]) (st := []) (b := (14 + 3 + ((nx tp L k).2.2.2))) dX3_readPay_74 rfl (k_RX3_92 _) rfl ⟨by decide, by decide⟩ ⟨by decide, by decide⟩ (Or.inl rfl) rfl (Nat.le_of_ble_eq_true rfl) (sh_coin (Or.inr (Or.inl rfl)) (by omega)) rfl rfl (c_payTo (q := (14 + 3 + ((nx tp L k).2.2.2))) (k := σ.2.1 (nx tp L k).2.2.2) (w := (nx tp L (nx tp L (nx tp L k))).2.2.2) (sh_coin (Or.inr (Or.inl rfl)) (by omega)) (hA45.2.1 (nx tp L k).2.2.2 h14.2) (hW.2.1 (nx tp L k).2.2.2 h14.2) (by have := h53.2; omega)) (fun r74 M74 z => ?_)
          obtain ⟨I74, rfl, rfl, hK74, hF74⟩ := z
          have hk74 := hk45.mv (hF74 41 (by omega))
          have hf74 := hf45.tl (fun i hi => hF74 i (by omega))
          have hA74 := hA45.cset hK74 hF74
          show zV G (eX3_readPay (g_rmv 6)) (0, 0) 77 [(0, .ref 41), (1, .ref 14), (2, .ref (14 + 3 + ((nx tp L k).2.2.2)))] [] (mm I74 J 40) _
          refine zV_aload_n dX3_readPay_77 rfl 0 rfl rfl ?_
          refine zV_callV (E' := eX3_step (g_rmv 1)) (av := []) (st := []) (b := 41) dX3_readPay_78 rfl (k_RX3_37 _) rfl ⟨by decide, by decide⟩ ⟨by decide, by decide⟩ (Or.inl rfl) rfl (Nat.le_of_ble_eq_true rfl) rfl rfl rfl (c_step (tp := tp) (L := L) (s0 := (nx tp L (nx tp L (nx tp L k))).1) (t0 := (nx tp L (nx tp L (nx tp L k))).2.1) (b := (nx tp L (nx tp L (nx tp L k))).2.2.1) (v0 := (nx tp L (nx tp L (nx tp L k))).2.2.2) (hf74.use hr) ok45.2.2.1 hk74) (fun r78 M78 z => ?_)
          obtain ⟨I78, rfl, rfl, hT78, hF78⟩ := z
          have hk78 : tkC I78 (nx tp L (nx tp L (nx tp L (nx tp L k)))) := hT78
          have ok78 : okT L (nx tp L (nx tp L (nx tp L (nx tp L k)))) := nx_ok ok45.2.2.1
          have hf78 := hf74.t41 hF78
          have hA78 := hA74.mv hW.1 (fun i a b => hF78.1 i (by omega))
          have vb78 := ok78.2.2.2
          show zV G (eX3_readPay (g_rmv 6)) (0, 0) 81 [(0, .ref 41), (1, .ref 14), (2, .ref (14 + 3 + ((nx tp L k).2.2.2)))] [] (mm I78 J 40) _
          refine zV_iconst (v := (nI 1)) dX3_readPay_81 rfl rfl ?_
          exact zV_ireturn dX3_readPay_82 rfl rfl (⟨_, by rw [(show rPay tp L k σ = (true, (nx tp L (nx tp L (nx tp L (nx tp L k)))), (ld_cset σ (nx tp L k).2.2.2 (k_set (k_turn (σ.2.1 (nx tp L k).2.2.2)) 1 (nx tp L (nx tp L (nx tp L k))).2.2.2))) from (if_pos h14).trans ((if_pos h39).trans (if_pos ⟨h53, h64⟩)))]; rfl, rfl, by rw [(show rPay tp L k σ = (true, (nx tp L (nx tp L (nx tp L (nx tp L k)))), (ld_cset σ (nx tp L k).2.2.2 (k_set (k_turn (σ.2.1 (nx tp L k).2.2.2)) 1 (nx tp L (nx tp L (nx tp L k))).2.2.2))) from (if_pos h14).trans ((if_pos h39).trans (if_pos ⟨h53, h64⟩)))]; exact hk78, by rw [(show rPay tp L k σ = (true, (nx tp L (nx tp L (nx tp L (nx tp L k)))), (ld_cset σ (nx tp L k).2.2.2 (k_set (k_turn (σ.2.1 (nx tp L k).2.2.2)) 1 (nx tp L (nx tp L (nx tp L k))).2.2.2))) from (if_pos h14).trans ((if_pos h39).trans (if_pos ⟨h53, h64⟩)))]; exact fun _ => hA78, hf78⟩)
        · skip
          refine zV_iconst (v := (nI 0)) dX3_readPay_67 rfl rfl ?_
          exact zV_ireturn dX3_readPay_68 rfl rfl (⟨_, by rw [(show rPay tp L k σ = (false, (nx tp L (nx tp L (nx tp L k))), σ) from (if_pos h14).trans ((if_pos h39).trans (if_neg (fun z => z.2 h64))))]; rfl, rfl, by rw [(show rPay tp L k σ = (false, (nx tp L (nx tp L (nx tp L k))), σ) from (if_pos h14).trans ((if_pos h39).trans (if_neg (fun z => z.2 h64))))]; exact hk45, by rw [(show rPay tp L k σ = (false, (nx tp L (nx tp L (nx tp L k))), σ) from (if_pos h14).trans ((if_pos h39).trans (if_neg (fun z => z.2 h64))))]; exact (fun z => by cases z), hf45⟩)
    · skip
      refine zV_iconst (v := (nI 0)) dX3_readPay_42 rfl rfl ?_
      exact zV_ireturn dX3_readPay_43 rfl rfl (⟨_, by rw [(show rPay tp L k σ = (false, (nx tp L (nx tp L k)), σ) from (if_pos h14).trans (if_neg h39))]; rfl, rfl, by rw [(show rPay tp L k σ = (false, (nx tp L (nx tp L k)), σ) from (if_pos h14).trans (if_neg h39))]; exact hk30, by rw [(show rPay tp L k σ = (false, (nx tp L (nx tp L k)), σ) from (if_pos h14).trans (if_neg h39))]; exact (fun z => by cases z), hf30⟩)
  · skip
    refine zV_iconst (v := (nI 0)) dX3_readPay_17 rfl rfl ?_
    exact zV_ireturn dX3_readPay_18 rfl rfl (⟨_, by rw [(show rPay tp L k σ = (false, (nx tp L k), σ) from if_neg h14)]; rfl, rfl, by rw [(show rPay tp L k σ = (false, (nx tp L k), σ) from if_neg h14)]; exact hk1, by rw [(show rPay tp L k σ = (false, (nx tp L k), σ) from if_neg h14)]; exact (fun z => by cases z), hf1⟩)

set_option maxRecDepth 100000 in
theorem c_readItem {G : mG} {I : Nat → Nat → Int32} {J : Nat → Nat → Int64} {tp : Nat → Nat} {L B : Nat} {k : aT} {σ : aL} (hr : rdC I tp L) (hk : tkC I k) (ho : okT L k) (hA : absL I 14 σ) (hW : wfL B σ) : zC G yX3_readItem (eX3_readItem (g_rmv 7)) [.ref 41, .ref 14] (mm I J 40) (fun r M => ∃ I', r = some (.int (b2 ((rItem tp L k σ).1 = true))) ∧ M = mm I' J 40 ∧ tkC I' (rItem tp L k σ).2.1 ∧ ((rItem tp L k σ).1 = true → absL I' 14 (rItem tp L k σ).2.2) ∧ frT I I') := by
  refine zC_of (by decide +kernel) rfl (by decide) (Nat.le_of_ble_eq_true rfl) ?_
  have n10 := hW.1
  show zV G (eX3_readItem (g_rmv 7)) (0, 0) 0 [(0, .ref 41), (1, .ref 14)] [] (mm I J 40) _
  refine zV_iconst (v := (nI 0)) dX3_readItem_0 rfl rfl ?_
  refine zV_istore_n (lv' := [(0, .ref 41), (1, .ref 14), (2, .int (nI 0))]) dX3_readItem_1 rfl rfl (by decide) rfl ?_
  refine z_for (fun c => (∀ j, j < c → ¬ isW tp k j) → zV G (eX3_readItem (g_rmv 7)) (0, 0) 2 [(0, .ref 41), (1, .ref 14), (2, .int (nI c))] [] (mm I J 40) _) 7 ?_ ?_ 0 (Nat.zero_le _) (fun j h => absurd h (Nat.not_lt_zero _))
  · intro hno
    refine zV_iload_n dX3_readItem_2 rfl 2 rfl rfl ?_
    refine zV_bipush (v := (nI 7)) dX3_readItem_3 rfl rfl ?_
    refine zN_icmp_ge (tgt := 32) dX3_readItem_5 rfl rfl (by omega) (by omega) (fun _ => ?_) (fun z => absurd z (by omega))
    refine zV_aload_n dX3_readItem_32 rfl 0 rfl rfl ?_
    refine zV_ldcS (i := 7) (tx := "pay") dX3_readItem_33 rfl (by decide) ?_
    refine zV_callV (E' := eX3_isWord (g_rmv 5)) (av := [.ref (1000 + 7)]) (st := []) (b := 41) dX3_readItem_35 rfl (k_RX3_48 _) rfl ⟨by decide, by decide⟩ ⟨by decide, by decide⟩ (Or.inl rfl) rfl (Nat.le_of_ble_eq_true rfl) rfl rfl rfl (c_isWord (t := 7) (frT.rf.use hr) hk ho (by decide)) (fun r35 M35 z => ?_)
    obtain ⟨rfl, rfl⟩ := z
    show zV G (eX3_readItem (g_rmv 7)) (0, 0) 38 [(0, .ref 41), (1, .ref 14), (2, .int (nI 7))] [.int (b2 (isW tp k 7))] (mm I J 40) _
    refine zB_if_eq (tgt := 53) dX3_readItem_38 rfl rfl  (fun h38 => ?_) (fun h38 => ?_)
    · refine zV_iconst (v := (nI 0)) dX3_readItem_53 rfl rfl ?_
      exact zV_ireturn dX3_readItem_54 rfl rfl (⟨_, by rw [(show rItem tp L k σ = (false, k, σ) from (if_neg (by rw [kdOf_no hno]; decide)).trans (if_neg h38))]; rfl, rfl, by rw [(show rItem tp L k σ = (false, k, σ) from (if_neg (by rw [kdOf_no hno]; decide)).trans (if_neg h38))]; exact hk, by rw [(show rItem tp L k σ = (false, k, σ) from (if_neg (by rw [kdOf_no hno]; decide)).trans (if_neg h38))]; exact (fun z => by cases z), frT.rf⟩)
    · refine zV_aload_n dX3_readItem_41 rfl 0 rfl rfl ?_
      refine zV_aload_n dX3_readItem_42 rfl 1 rfl rfl ?_
      refine zV_callV (E' := eX3_readPay (g_rmv 6)) (av := [.ref 14]) (st := []) (b := 41) dX3_readItem_43 rfl (k_RX3_58 _) rfl ⟨by decide, by decide⟩ ⟨by decide, by decide⟩ (Or.inl rfl) rfl (Nat.le_of_ble_eq_true rfl) rfl rfl rfl (c_readPay hr hk ho hA hW) (fun r43 M43 z => ?_)
      obtain ⟨I43, rfl, rfl, q1, q2, q3⟩ := z
      show zV G (eX3_readItem (g_rmv 7)) (0, 0) 46 [(0, .ref 41), (1, .ref 14), (2, .int (nI 7))] [.int (b2 ((rPay tp L k σ).1 = true))] (mm I43 J 40) _
      refine zB_if_eq (tgt := 53) dX3_readItem_46 rfl rfl  (fun h46 => ?_) (fun h46 => ?_)
      · refine zV_iconst (v := (nI 0)) dX3_readItem_53 rfl rfl ?_
        exact zV_ireturn dX3_readItem_54 rfl rfl (⟨_, by rw [(show rItem tp L k σ = rPay tp L k σ from (if_neg (by rw [kdOf_no hno]; decide)).trans (if_pos h38))]; exact z_b0 h46, rfl, by rw [(show rItem tp L k σ = rPay tp L k σ from (if_neg (by rw [kdOf_no hno]; decide)).trans (if_pos h38))]; exact q1, by rw [(show rItem tp L k σ = rPay tp L k σ from (if_neg (by rw [kdOf_no hno]; decide)).trans (if_pos h38))]; exact q2, q3⟩)
      · refine zV_iconst (v := (nI 1)) dX3_readItem_49 rfl rfl ?_
        refine zV_goto (tgt := 54) dX3_readItem_50 rfl ?_
        exact zV_ireturn dX3_readItem_54 rfl rfl (⟨_, by rw [(show rItem tp L k σ = rPay tp L k σ from (if_neg (by rw [kdOf_no hno]; decide)).trans (if_pos h38))]; exact z_b1 h46, rfl, by rw [(show rItem tp L k σ = rPay tp L k σ from (if_neg (by rw [kdOf_no hno]; decide)).trans (if_pos h38))]; exact q1, by rw [(show rItem tp L k σ = rPay tp L k σ from (if_neg (by rw [kdOf_no hno]; decide)).trans (if_pos h38))]; exact q2, q3⟩)
  · intro c hc ih hno
    refine zV_iload_n dX3_readItem_2 rfl 2 rfl rfl ?_
    refine zV_bipush (v := (nI 7)) dX3_readItem_3 rfl rfl ?_
    refine zN_icmp_ge (tgt := 32) dX3_readItem_5 rfl rfl (by omega) (by omega) (fun z => absurd z (by omega)) (fun _ => ?_)
    refine zV_aload_n dX3_readItem_8 rfl 0 rfl rfl ?_
    refine zV_iload_n dX3_readItem_9 rfl 2 rfl rfl ?_
    refine zV_callS (E' := eX3_nameOf (g_rmv 0)) (av := [.int (nI c)]) (st := [.ref 41]) dX3_readItem_10 rfl (k_RX3_44 _) rfl ⟨by decide, by decide⟩ ⟨by decide, by decide⟩ (Or.inl rfl) rfl (Nat.le_of_ble_eq_true rfl) (c_nameOf (c := c) hc) (fun r10 M10 z => ?_)
    obtain ⟨rfl, rfl⟩ := z
    show zV G (eX3_readItem (g_rmv 7)) (0, 0) 13 [(0, .ref 41), (1, .ref 14), (2, .int (nI c))] [.ref (1000 + c), .ref 41] (mm I J 40) _
    refine zV_callV (E' := eX3_isWord (g_rmv 5)) (av := [.ref (1000 + c)]) (st := []) (b := 41) dX3_readItem_13 rfl (k_RX3_48 _) rfl ⟨by decide, by decide⟩ ⟨by decide, by decide⟩ (Or.inl rfl) rfl (Nat.le_of_ble_eq_true rfl) rfl rfl rfl (c_isWord (t := c) (frT.rf.use hr) hk ho (by omega)) (fun r13 M13 z => ?_)
    obtain ⟨rfl, rfl⟩ := z
    show zV G (eX3_readItem (g_rmv 7)) (0, 0) 16 [(0, .ref 41), (1, .ref 14), (2, .int (nI c))] [.int (b2 (isW tp k c))] (mm I J 40) _
    refine zB_if_eq (tgt := 26) dX3_readItem_16 rfl rfl  (fun h16 => ?_) (fun h16 => ?_)
    · refine zV_iinc (y := (nI (c + 1))) (lv' := [(0, .ref 41), (1, .ref 14), (2, .int (nI (c + 1)))]) dX3_readItem_26 rfl 2 rfl (nI_1 _) (by decide) rfl ?_
      refine zV_goto (tgt := 2) dX3_readItem_29 rfl ?_
      exact ih (fun j hj => by (by_cases e : j = c); (· subst e; exact h16); (· exact hno j (by omega)))
    · refine zV_aload_n dX3_readItem_19 rfl 0 rfl rfl ?_
      refine zV_aload_n dX3_readItem_20 rfl 1 rfl rfl ?_
      refine zV_iload_n dX3_readItem_21 rfl 2 rfl rfl ?_
      refine zV_callV (E' := eX3_readCoin (g_rmv 6)) (av := [.ref 14, .int (nI c)]) (st := []) (b := 41) dX3_readItem_22 rfl (k_RX3_52 _) rfl ⟨by decide, by decide⟩ ⟨by decide, by decide⟩ (Or.inl rfl) rfl (Nat.le_of_ble_eq_true rfl) rfl rfl rfl (c_readCoin (kd := c) hr hk ho hA hW hc) (fun r22 M22 z => ?_)
      obtain ⟨I22, rfl, rfl, q1, q2, q3⟩ := z
      show zV G (eX3_readItem (g_rmv 7)) (0, 0) 25 [(0, .ref 41), (1, .ref 14), (2, .int (nI c))] [.int (b2 ((rCoin tp L c k σ).1 = true))] (mm I22 J 40) _
      exact zV_ireturn dX3_readItem_25 rfl (b2_n _) (⟨_, by rw [(show rItem tp L k σ = rCoin tp L c k σ from (if_pos (by rw [kdOf_is hc h16]; exact hc)).trans (by rw [kdOf_is hc h16]))], rfl, by rw [(show rItem tp L k σ = rCoin tp L c k σ from (if_pos (by rw [kdOf_is hc h16]; exact hc)).trans (by rw [kdOf_is hc h16]))]; exact q1, by rw [(show rItem tp L k σ = rCoin tp L c k σ from (if_pos (by rw [kdOf_is hc h16]; exact hc)).trans (by rw [kdOf_is hc h16]))]; exact q2, q3⟩)
