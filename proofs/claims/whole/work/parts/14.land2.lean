/-! LANDS: more methods -/
set_option maxRecDepth 100000 in
theorem c_hasSet {G : mG} {I : Nat → Nat → Int32} {J : Nat → Nat → Int64} {t : Nat} {b B : Nat} {σ : aL} (hb : isLand b) (hA : absL I b σ) (hW : wfL B σ) {x : Int32} : zC G yX1_hasSet (eX1_hasSet (g_rmv 1)) [.ref b, .int x] (mm I J t) (fun r M => r = some (.int (b2 (isSet σ.1 x))) ∧ M = mm I J t) := by
  refine zC_of (by decide +kernel) rfl (by decide) (Nat.le_of_ble_eq_true rfl) ?_
  have n10 := hW.1
  show zV G (eX1_hasSet (g_rmv 1)) (0, 0) 0 [(0, .ref b), (1, .int x)] [] (mm I J t) _
  refine zV_iload_n dX1_hasSet_0 rfl 1 rfl rfl ?_
  refine zV_aload_n dX1_hasSet_1 rfl 0 rfl rfl ?_
  refine zV_callV (E' := eX1_allCoins (g_rmv 0)) (av := []) (st := [.int x]) (b := b) dX1_hasSet_2 rfl (k_RX1_48 _) rfl ⟨by decide, by decide⟩ ⟨by decide, by decide⟩ (Or.inl rfl) rfl (Nat.le_of_ble_eq_true rfl) (sh_land hb) rfl rfl (c_allCoins hb hA hW) (fun r2 M2 z => ?_)
  obtain ⟨rfl, rfl⟩ := z
  show zV G (eX1_hasSet (g_rmv 1)) (0, 0) 5 [(0, .ref b), (1, .int x)] [.int (nI (2 ^ σ.1 - 1)), .int x] (mm I J t) _
  refine zV_iconst (v := (-1)) dX1_hasSet_5 rfl rfl ?_
  refine zA_ixor (z := ((nI (2 ^ σ.1 - 1)) ^^^ (-1))) dX1_hasSet_6 rfl  (rfl) ?_
  refine zA_iand (z := (x &&& ((nI (2 ^ σ.1 - 1)) ^^^ (-1)))) dX1_hasSet_7 rfl  (rfl) ?_
  refine zV_if_ne (tgt := 15) dX1_hasSet_8 rfl rfl  (fun h8 => ?_) (fun h8 => ?_)
  · refine zV_iconst (v := (nI 0)) dX1_hasSet_15 rfl rfl ?_
    exact zV_ireturn dX1_hasSet_16 rfl rfl (⟨z_b0 (by rw [isSet_iff n10, ← z_set n10]; exact h8), rfl⟩)
  · refine zV_iconst (v := (nI 1)) dX1_hasSet_11 rfl rfl ?_
    refine zV_goto (tgt := 16) dX1_hasSet_12 rfl ?_
    exact zV_ireturn dX1_hasSet_16 rfl rfl (⟨z_b1 (by rw [isSet_iff n10, ← z_set n10]; exact h8), rfl⟩)

set_option maxRecDepth 100000 in
theorem c_addCoin {G : mG} {I : Nat → Nat → Int32} {J : Nat → Nat → Int64} {t : Nat} {b B : Nat} {σ : aL} (hb : isLand b) (hA : absL I b σ) (hW : wfL B σ) {kd kg sp : Nat} (hn : σ.1 < 10) : zC G yX1_addCoin (eX1_addCoin (g_rmv 0)) [.ref b, .int (nI kd), .int (nI kg), .int (nI sp)] (mm I J t) (fun r M => ∃ I', r = some (.int (nI σ.1)) ∧ M = mm I' J t ∧ absL I' b (ld_add σ kd kg sp) ∧ frL b I I') := by
  refine zC_of (by decide +kernel) rfl (by decide) (Nat.le_of_ble_eq_true rfl) ?_
  have n10 := hW.1
  have e1 : b ≠ b + 3 + σ.1 := by omega
  have e2 : b + 2 ≠ b + 3 + σ.1 := by omega
  have e3 : b + 2 ≠ b := by omega
  have e6 : b + 3 + σ.1 ≠ b := by omega
  have e7 : ¬ 3 + σ.1 = 0 := by omega
  show zV G (eX1_addCoin (g_rmv 0)) (0, 0) 0 [(0, .ref b), (1, .int (nI kd)), (2, .int (nI kg)), (3, .int (nI sp))] [] (mm I J t) _
  refine zV_aload_n dX1_addCoin_0 rfl 0 rfl rfl ?_
  refine zV_getr (q' := (b + 1)) 0 dX1_addCoin_1 rfl fl_RX1_11 (sh_land hb) (by decide) rfl (R_coins hb) ?_
  refine zV_aload_n dX1_addCoin_4 rfl 0 rfl rfl ?_
  refine zV_getI (x := (nI σ.1)) 2 dX1_addCoin_5 rfl fl_RX1_21 (sh_land hb) (by decide) rfl hA.1 ?_
  refine zV_aaload (q' := (b + 3 + σ.1)) σ.1 dX1_addCoin_8 rfl (sh_coins hb) rfl (by decide) rfl (by omega) (by decide) (R_coin hb (by omega)) ?_
  refine zV_astore (lv' := [(0, .ref b), (1, .int (nI kd)), (2, .int (nI kg)), (3, .int (nI sp)), (4, .ref (b + 3 + σ.1))]) dX1_addCoin_9 rfl (by decide) rfl ?_
  refine zV_aload dX1_addCoin_11 rfl 4 rfl ?_
  refine zV_iload_n dX1_addCoin_13 rfl 1 rfl rfl ?_
  refine zV_puti 0 dX1_addCoin_14 rfl fl_RX1_52 (sh_coin hb (by omega)) (by decide) rfl rfl rfl ?_
  refine zV_aload dX1_addCoin_17 rfl 4 rfl ?_
  refine zV_iconst (v := (nI 0)) dX1_addCoin_19 rfl rfl ?_
  refine zV_puti 1 dX1_addCoin_20 rfl fl_RX1_55 (sh_coin hb (by omega)) (by decide) rfl rfl rfl ?_
  refine zV_aload dX1_addCoin_23 rfl 4 rfl ?_
  refine zV_iload_n dX1_addCoin_25 rfl 2 rfl rfl ?_
  refine zV_puti 2 dX1_addCoin_26 rfl fl_RX1_58 (sh_coin hb (by omega)) (by decide) rfl rfl rfl ?_
  refine zV_aload dX1_addCoin_29 rfl 4 rfl ?_
  refine zV_iload_n dX1_addCoin_31 rfl 3 rfl rfl ?_
  refine zV_puti 3 dX1_addCoin_32 rfl fl_RX1_61 (sh_coin hb (by omega)) (by decide) rfl rfl rfl ?_
  refine zV_aload dX1_addCoin_35 rfl 4 rfl ?_
  refine zV_iconst (v := (nI 0)) dX1_addCoin_37 rfl rfl ?_
  refine zV_puti 4 dX1_addCoin_38 rfl fl_RX1_64 (sh_coin hb (by omega)) (by decide) rfl rfl rfl ?_
  refine zV_aload dX1_addCoin_41 rfl 4 rfl ?_
  refine zV_iconst (v := (nI 0)) dX1_addCoin_43 rfl rfl ?_
  refine zV_puti 5 dX1_addCoin_44 rfl fl_RX1_67 (sh_coin hb (by omega)) (by decide) rfl rfl rfl ?_
  refine zV_aload_n dX1_addCoin_47 rfl 0 rfl rfl ?_
  refine zV_dup dX1_addCoin_48 rfl rfl ?_
  refine zV_getI (x := (nI σ.1)) 2 dX1_addCoin_49 rfl fl_RX1_21 (sh_land hb) (by decide) rfl (by simp [up2, e1, hA.1]) ?_
  refine zV_iconst (v := (nI 1)) dX1_addCoin_52 rfl rfl ?_
  refine zA_iadd (z := (nI (σ.1 + 1))) dX1_addCoin_53 rfl  (nI_add _ _) ?_
  refine zV_puti 2 dX1_addCoin_54 rfl fl_RX1_21 (sh_land hb) (by decide) rfl rfl rfl ?_
  refine zV_aload_n dX1_addCoin_57 rfl 0 rfl rfl ?_
  refine zV_getI (x := (nI (σ.1 + 1))) 2 dX1_addCoin_58 rfl fl_RX1_21 (sh_land hb) (by decide) rfl (up2_same _ _ _ _) ?_
  refine zV_iconst (v := (nI 1)) dX1_addCoin_61 rfl rfl ?_
  refine zA_isub (z := (nI σ.1)) dX1_addCoin_62 rfl  (nI_pred _) ?_
  exact zV_ireturn dX1_addCoin_63 rfl rfl (⟨_, rfl, rfl, hA.add (by simp [up2, e1, e2, e3, e6, e7]) (by simp [up2, e1, e2, e3, e6, e7]) (by simp [up2, e1, e2, e3, e6, e7]) (fun s => (by simp [up2, e1, e2, e3, e6, e7])) (fun c hc f => by have e4 : b + 3 + c ≠ b + 3 + σ.1 := (by omega); have e5 : b + 3 + c ≠ b := (by omega); have e10 : ¬ c = σ.1 := (by omega); simp [up2, e4, e5, e10]) (by simp [up2, e1, e2, e3, e6, e7]) (by simp [up2, e1, e2, e3, e6, e7]) (by simp [up2, e1, e2, e3, e6, e7]) (by simp [up2, e1, e2, e3, e6, e7]) (by simp [up2, e1, e2, e3, e6, e7]) (by simp [up2, e1, e2, e3, e6, e7]), fun i hi => by funext f; have e8 : i ≠ b := (by omega); have e9 : i ≠ b + 3 + σ.1 := (by omega); simp [up2, e8, e9]⟩)

set_option maxRecDepth 100000 in
theorem c_draw {G : mG} {I : Nat → Nat → Int32} {J : Nat → Nat → Int64} {t : Nat} {b B : Nat} {σ : aL} (hb : isLand b) (hA : absL I b σ) (hW : wfL B σ) : zC G yX1_draw (eX1_draw (g_rmv 0)) [.ref b] (mm I J t) (fun r M => ∃ I', r = some (.int (nI (zn σ.2.2.2.2))) ∧ M = mm I' J t ∧ absL I' b (ld_z σ (zd σ.2.2.2.2)) ∧ frL b I I') := by
  refine zC_of (by decide +kernel) rfl (by decide) (Nat.le_of_ble_eq_true rfl) ?_
  have n10 := hW.1
  show zV G (eX1_draw (g_rmv 0)) (0, 0) 0 [(0, .ref b)] [] (mm I J t) _
  refine zV_aload_n dX1_draw_0 rfl 0 rfl rfl ?_
  refine zV_aload_n dX1_draw_1 rfl 0 rfl rfl ?_
  refine zV_getI (x := σ.2.2.2.2) 4 dX1_draw_2 rfl fl_RX1_28 (sh_land hb) (by decide) rfl hA.2.2.2.2 ?_
  refine zV_ldc (v := (nI 1103515245)) dX1_draw_5 rfl tw650 ?_
  refine zA_imul (z := (σ.2.2.2.2 * (nI 1103515245))) dX1_draw_7 rfl  (rfl) ?_
  refine zV_sipush (v := (nI 12345)) dX1_draw_8 rfl rfl ?_
  refine zA_iadd (z := (zd σ.2.2.2.2)) dX1_draw_11 rfl  (rfl) ?_
  refine zV_puti 4 dX1_draw_12 rfl fl_RX1_28 (sh_land hb) (by decide) rfl rfl rfl ?_
  refine zV_aload_n dX1_draw_15 rfl 0 rfl rfl ?_
  refine zV_getI (x := (zd σ.2.2.2.2)) 4 dX1_draw_16 rfl fl_RX1_28 (sh_land hb) (by decide) rfl (up2_same _ _ _ _) ?_
  refine zV_bipush (v := (nI 8)) dX1_draw_19 rfl rfl ?_
  refine zA_iushr (z := (nI (zn σ.2.2.2.2))) dX1_draw_21 rfl  (z_ush8 _) ?_
  exact zV_ireturn dX1_draw_22 rfl rfl (⟨_, rfl, rfl, hA.z rfl, frL.b⟩)

set_option maxRecDepth 100000 in
theorem c_passDays {G : mG} {I : Nat → Nat → Int32} {J : Nat → Nat → Int64} {t : Nat} {b B : Nat} {σ : aL} (hb : isLand b) (hA : absL I b σ) (hW : wfL B σ) {n : Nat} (hn : n ≤ 60) (hd : σ.2.2.2.1 + n ≤ 999) (hB : B + 120 < 1000000) : zC G yX1_passDays (eX1_passDays (g_rmv 3)) [.ref b, .int (nI n)] (mm I J t) (fun r M => ∃ I', r = some (.int (nI (ld_daysN σ n))) ∧ M = mm I' J t ∧ absL I' b (ld_days σ n) ∧ frL b I I') := by
  refine zC_of (by decide +kernel) rfl (by decide) (Nat.le_of_ble_eq_true rfl) ?_
  have n10 := hW.1
  show zV G (eX1_passDays (g_rmv 3)) (0, 0) 0 [(0, .ref b), (1, .int (nI n))] [] (mm I J t) _
  refine zV_iconst (v := (nI 0)) dX1_passDays_0 rfl rfl ?_
  refine zV_istore_n (lv' := [(0, .ref b), (1, .int (nI n)), (2, .int (nI 0))]) dX1_passDays_1 rfl rfl (by decide) rfl ?_
  refine zV_iconst (v := (nI 0)) dX1_passDays_2 rfl rfl ?_
  refine zV_istore_n (lv' := [(0, .ref b), (1, .int (nI n)), (2, .int (nI 0)), (3, .int (nI 0))]) dX1_passDays_3 rfl rfl (by decide) rfl ?_
  refine z_for (fun c => ∀ (I1 : Nat → Nat → Int32), (absL I1 b (ld_days σ c) ∧ frL b I I1) → zV G (eX1_passDays (g_rmv 3)) (0, 0) 4 [(0, .ref b), (1, .int (nI n)), (2, .int (nI (ld_daysN σ c))), (3, .int (nI c))] [] (mm I1 J t) _) n ?_ ?_ 0 (Nat.zero_le _) I ⟨hA, frL.rf⟩
  · intro I1 h1
    refine zV_iload_n dX1_passDays_4 rfl 3 rfl rfl ?_
    refine zV_iload_n dX1_passDays_5 rfl 1 rfl rfl ?_
    refine zN_icmp_ge (tgt := 42) dX1_passDays_6 rfl rfl (by omega) (by omega) (fun _ => ?_) (fun z => absurd z (by omega))
    refine zV_iload_n dX1_passDays_42 rfl 2 rfl rfl ?_
    exact zV_ireturn dX1_passDays_43 rfl rfl (⟨I1, rfl, rfl, h1.1, h1.2⟩)
  · intro c hc ih
    intro I1 h1
    have hW1 := wf_days hW c (by omega) (by omega)
    have dd := ld_days_d σ c
    refine zV_iload_n dX1_passDays_4 rfl 3 rfl rfl ?_
    refine zV_iload_n dX1_passDays_5 rfl 1 rfl rfl ?_
    refine zN_icmp_ge (tgt := 42) dX1_passDays_6 rfl rfl (by omega) (by omega) (fun z => absurd z (by omega)) (fun _ => ?_)
    refine zV_aload_n dX1_passDays_9 rfl 0 rfl rfl ?_
    refine zV_getI (x := (nI ((ld_days σ c).2.2.2.1))) 3 dX1_passDays_10 rfl fl_RX1_25 (sh_land hb) (by decide) rfl h1.1.2.2.2.1 ?_
    refine zV_bipush (v := (nI 7)) dX1_passDays_13 rfl rfl ?_
    refine zA_irem (z := (nI ((ld_days σ c).2.2.2.1 % 7))) dX1_passDays_15 rfl (by decide) (pk_rem (by omega) (by omega) (by omega)) ?_
    refine zN_if_ne (tgt := 26) dX1_passDays_16 rfl rfl (by omega) (fun h16 => ?_) (fun h16 => ?_)
    · refine zV_aload_n dX1_passDays_26 rfl 0 rfl rfl ?_
      refine zV_dup dX1_passDays_27 rfl rfl ?_
      refine zV_getI (x := (nI ((ld_days σ c).2.2.2.1))) 3 dX1_passDays_28 rfl fl_RX1_25 (sh_land hb) (by decide) rfl h1.1.2.2.2.1 ?_
      refine zV_iconst (v := (nI 1)) dX1_passDays_31 rfl rfl ?_
      refine zA_iadd (z := (nI ((ld_days σ c).2.2.2.1 + 1))) dX1_passDays_32 rfl  (nI_add _ _) ?_
      refine zV_puti 3 dX1_passDays_33 rfl fl_RX1_25 (sh_land hb) (by decide) rfl rfl rfl ?_
      refine zV_iinc (y := (nI (c + 1))) (lv' := [(0, .ref b), (1, .int (nI n)), (2, .int (nI (ld_daysN σ c))), (3, .int (nI (c + 1)))]) dX1_passDays_36 rfl 3 rfl (nI_1 _) (by decide) rfl ?_
      refine zV_goto (tgt := 4) dX1_passDays_39 rfl ?_
      rw [show ld_daysN σ (c + 1) = (ld_daysN σ c) by show ld_daysN σ c + (if _ then _ else _) = _; rw [if_neg h16]; rfl] at ih
      exact ih _ ⟨by rw [show ld_days σ (c + 1) = ld_day (ld_days σ c) ((ld_days σ c).2.2.2.1 + 1) from if_neg h16]; exact h1.1.day rfl, h1.2.tr frL.b⟩
    · refine zV_iload_n dX1_passDays_19 rfl 2 rfl rfl ?_
      refine zV_aload_n dX1_passDays_20 rfl 0 rfl rfl ?_
      refine zV_callV (E' := eX1_turnShips (g_rmv 2)) (av := []) (st := [.int (nI (ld_daysN σ c))]) (b := b) dX1_passDays_21 rfl (k_RX1_90 _) rfl ⟨by decide, by decide⟩ ⟨by decide, by decide⟩ (Or.inl rfl) rfl (Nat.le_of_ble_eq_true rfl) (sh_land hb) rfl rfl (c_turnShips hb h1.1 hW1) (fun r21 M21 z => ?_)
      obtain ⟨I21, rfl, rfl, hA21, hF21⟩ := z
      show zV G (eX1_passDays (g_rmv 3)) (0, 0) 24 [(0, .ref b), (1, .int (nI n)), (2, .int (nI (ld_daysN σ c))), (3, .int (nI c))] [.int (nI (ld_shipN (ld_days σ c))), .int (nI (ld_daysN σ c))] (mm I21 J t) _
      refine zA_iadd (z := (nI ((ld_daysN σ c) + (ld_shipN (ld_days σ c))))) dX1_passDays_24 rfl  (nI_add _ _) ?_
      refine zV_istore_n (lv' := [(0, .ref b), (1, .int (nI n)), (2, .int (nI ((ld_daysN σ c) + (ld_shipN (ld_days σ c))))), (3, .int (nI c))]) dX1_passDays_25 rfl rfl (by decide) rfl ?_
      refine zV_aload_n dX1_passDays_26 rfl 0 rfl rfl ?_
      refine zV_dup dX1_passDays_27 rfl rfl ?_
      refine zV_getI (x := (nI ((ld_days σ c).2.2.2.1))) 3 dX1_passDays_28 rfl fl_RX1_25 (sh_land hb) (by decide) rfl hA21.2.2.2.1 ?_
      refine zV_iconst (v := (nI 1)) dX1_passDays_31 rfl rfl ?_
      refine zA_iadd (z := (nI ((ld_days σ c).2.2.2.1 + 1))) dX1_passDays_32 rfl  (nI_add _ _) ?_
      refine zV_puti 3 dX1_passDays_33 rfl fl_RX1_25 (sh_land hb) (by decide) rfl rfl rfl ?_
      refine zV_iinc (y := (nI (c + 1))) (lv' := [(0, .ref b), (1, .int (nI n)), (2, .int (nI ((ld_daysN σ c) + (ld_shipN (ld_days σ c))))), (3, .int (nI (c + 1)))]) dX1_passDays_36 rfl 3 rfl (nI_1 _) (by decide) rfl ?_
      refine zV_goto (tgt := 4) dX1_passDays_39 rfl ?_
      rw [show ld_daysN σ (c + 1) = ((ld_daysN σ c) + (ld_shipN (ld_days σ c))) by show ld_daysN σ c + (if _ then _ else _) = _; rw [if_pos h16]] at ih
      exact ih _ ⟨by rw [show ld_days σ (c + 1) = ld_day (ld_ship (ld_days σ c) (ld_days σ c).1) ((ld_days σ c).2.2.2.1 + 1) from if_pos h16]; exact hA21.day rfl, h1.2.tr (hF21.tr frL.b)⟩

theorem zV_copyI {G : mG} {E : mE} {cn : Nat × Nat} {pc pc' : Nat} {lv : List (Nat × Value)} {st : List Value} {Q : Option Value → mM → Prop} {sh : List (Nat × Nat × Nat)} {I : Nat → Nat → Int32} {J : Nat → Nat → Int64} {R : Nat → Nat → Option Nat} {q0 q1 n0 n1 idx : Nat} {a b d : Int32} (ja jb jd : Nat) (hd : decode E.2.1 pc = .ok (.invokestatic idx, 3)) (hp : pc + 3 = pc') (hw : Cond.methodLink E.1 idx arraycopyName ∈ tG ∧ Cond.native arraycopyName ∈ tG ∧ Cond.static arraycopyName ∈ tG ∧ Cond.initialized "java/lang/System" ∈ tG) (hs0 : sh[q0]? = some (1, 0, n0)) (hs1 : sh[q1]? = some (1, 0, n1)) (ha : a = nI ja) (hb : b = nI jb) (he : d = nI jd) (g0 : ja + jd ≤ n0) (g1 : jb + jd ≤ n1) (hN0 : n0 ≤ 100000) (hN1 : n1 ≤ 100000) (hf : 1 ≤ E.2.2.2.2.1.frames) (hlo : (st.map fun v => v.category).sum + (nativeFrameWords "java/lang/System" "arraycopy" 5 + 11) ≤ E.2.2.2.2.1.locals)
    (kk : ∀ I2 : Nat → Nat → Int32, (∀ u, u ≠ q1 → I2 u = I u) → (∀ v, I2 q1 v = va_cpy (fun j => I q0 j) (fun j => I q1 j) ja jb jd v) → zV G E cn pc' lv st (sh, I2, J, R) Q) : zV G E cn pc lv (.int d :: .int b :: .ref q1 :: .int a :: .ref q0 :: st) (sh, I, J, R) Q :=
  zV_copyi ja jb jd hd hp hw hs0 hs1 ha hb he g0 g1 hN0 hN1 hf hlo (kk _ (fun u hu => by funext v; simp [hu]) (fun v => by simp))
set_option maxRecDepth 100000 in
theorem c_landBecome {G : mG} {I : Nat → Nat → Int32} {J : Nat → Nat → Int64} {t : Nat} {a b B : Nat} {σ : aL} (ha : isLand a) (hb : isLand b) (hab : a ≠ b) (hA : absL I a σ) (hW : wfL B σ) : zC G yX1_become (eX1_become (g_rmv 1)) [.ref b, .ref a] (mm I J t) (fun r M => ∃ I', r = none ∧ M = mm I' J t ∧ absL I' b σ ∧ frL b I I') := by
  refine zC_of (by decide +kernel) rfl (by decide) (Nat.le_of_ble_eq_true rfl) ?_
  have n10 := hW.1
  have dis := ha.ne hb hab
  have e9 : ¬ a = b := hab
  show zV G (eX1_become (g_rmv 1)) (0, 0) 0 [(0, .ref b), (1, .ref a)] [] (mm I J t) _
  refine zV_iconst (v := (nI 0)) dX1_become_0 rfl rfl ?_
  refine zV_istore_n (lv' := [(0, .ref b), (1, .ref a), (2, .int (nI 0))]) dX1_become_1 rfl rfl (by decide) rfl ?_
  refine z_for (fun c => ∀ (I1 : Nat → Nat → Int32), ((∀ c', c' < c → absK I1 (b + 3 + c') (σ.2.1 c')) ∧ frL b I I1) → zV G (eX1_become (g_rmv 1)) (0, 0) 2 [(0, .ref b), (1, .ref a), (2, .int (nI c))] [] (mm I1 J t) _) σ.1 ?_ ?_ 0 (Nat.zero_le _) I ⟨fun c' h => absurd h (Nat.not_lt_zero _), frL.rf⟩
  · intro I1 h1
    refine zV_iload_n dX1_become_2 rfl 2 rfl rfl ?_
    refine zV_aload_n dX1_become_3 rfl 1 rfl rfl ?_
    refine zV_getI (x := (nI σ.1)) 2 dX1_become_4 rfl fl_RX1_21 (sh_land ha) (by decide) rfl (by rw [h1.2 a (by omega)]; exact hA.1) ?_
    refine zN_icmp_ge (tgt := 31) dX1_become_7 rfl rfl (by omega) (by omega) (fun _ => ?_) (fun z => absurd z (by omega))
    refine zV_aload_n dX1_become_31 rfl 1 rfl rfl ?_
    refine zV_getr (q' := (a + 2)) 1 dX1_become_32 rfl fl_RX1_17 (sh_land ha) (by decide) rfl (R_spots ha) ?_
    refine zV_iconst (v := (nI 0)) dX1_become_35 rfl rfl ?_
    refine zV_aload_n dX1_become_36 rfl 0 rfl rfl ?_
    refine zV_getr (q' := (b + 2)) 1 dX1_become_37 rfl fl_RX1_17 (sh_land hb) (by decide) rfl (R_spots hb) ?_
    refine zV_iconst (v := (nI 0)) dX1_become_40 rfl rfl ?_
    refine zV_bipush (v := (nI 10)) dX1_become_41 rfl rfl ?_
    refine zV_copyI 0 0 10 dX1_become_43 rfl ka_RX1_42 (sh_spots ha) (sh_spots hb) rfl rfl rfl (by decide) (by decide) (by decide) (by decide) (by decide) (by decide) (fun I2 hO hS => ?_)
    show zV G (eX1_become (g_rmv 1)) (0, 0) 46 [(0, .ref b), (1, .ref a), (2, .int (nI σ.1))] [] (mm I2 J t) _
    refine zV_aload_n dX1_become_46 rfl 0 rfl rfl ?_
    refine zV_aload_n dX1_become_47 rfl 1 rfl rfl ?_
    refine zV_getI (x := (nI σ.1)) 2 dX1_become_48 rfl fl_RX1_21 (sh_land ha) (by decide) rfl (by (try simp only [up2, e9, if_false]); rw [hO a (by omega), h1.2 a (by omega)]; exact hA.1) ?_
    refine zV_puti 2 dX1_become_51 rfl fl_RX1_21 (sh_land hb) (by decide) rfl rfl rfl ?_
    refine zV_aload_n dX1_become_54 rfl 0 rfl rfl ?_
    refine zV_aload_n dX1_become_55 rfl 1 rfl rfl ?_
    refine zV_getI (x := (nI σ.2.2.2.1)) 3 dX1_become_56 rfl fl_RX1_25 (sh_land ha) (by decide) rfl (by (try simp only [up2, e9, if_false]); rw [hO a (by omega), h1.2 a (by omega)]; exact hA.2.2.2.1) ?_
    refine zV_puti 3 dX1_become_59 rfl fl_RX1_25 (sh_land hb) (by decide) rfl rfl rfl ?_
    refine zV_aload_n dX1_become_62 rfl 0 rfl rfl ?_
    refine zV_aload_n dX1_become_63 rfl 1 rfl rfl ?_
    refine zV_getI (x := σ.2.2.2.2) 4 dX1_become_64 rfl fl_RX1_28 (sh_land ha) (by decide) rfl (by (try simp only [up2, e9, if_false]); rw [hO a (by omega), h1.2 a (by omega)]; exact hA.2.2.2.2) ?_
    refine zV_puti 4 dX1_become_67 rfl fl_RX1_28 (sh_land hb) (by decide) rfl rfl rfl ?_
    exact zV_return dX1_become_70 rfl (⟨_, rfl, rfl, ⟨by simp [up2], fun c hc f hf => by (have e8 : b + 3 + c ≠ b := (by omega)); rw [up2_ni e8, up2_ni e8, up2_ni e8, hO (b + 3 + c) (by omega)]; exact h1.1 c hc f hf, fun s hs => by (have e8 : b + 2 ≠ b := (by omega)); rw [up2_ni e8, up2_ni e8, up2_ni e8, hS s, pk_cpy_in (by omega) (by omega)]; show I1 (a + 2) (0 + (s - 0)) = _; rw [h1.2 (a + 2) (by omega), Nat.zero_add, Nat.sub_zero]; exact hA.2.2.1 s hs, by simp [up2], by simp [up2]⟩, h1.2.tr (fun i hi => by funext f; (have e8 : i ≠ b := (by omega)); rw [up2_ni e8, up2_ni e8, up2_ni e8, hO i (by omega)])⟩)
  · intro c hc ih
    intro I1 h1
    refine zV_iload_n dX1_become_2 rfl 2 rfl rfl ?_
    refine zV_aload_n dX1_become_3 rfl 1 rfl rfl ?_
    refine zV_getI (x := (nI σ.1)) 2 dX1_become_4 rfl fl_RX1_21 (sh_land ha) (by decide) rfl (by rw [h1.2 a (by omega)]; exact hA.1) ?_
    refine zN_icmp_ge (tgt := 31) dX1_become_7 rfl rfl (by omega) (by omega) (fun z => absurd z (by omega)) (fun _ => ?_)
    refine zV_aload_n dX1_become_10 rfl 0 rfl rfl ?_
    refine zV_getr (q' := (b + 1)) 0 dX1_become_11 rfl fl_RX1_11 (sh_land hb) (by decide) rfl (R_coins hb) ?_
    refine zV_iload_n dX1_become_14 rfl 2 rfl rfl ?_
    refine zV_aaload (q' := (b + 3 + c)) c dX1_become_15 rfl (sh_coins hb) rfl (by decide) rfl (by omega) (by decide) (R_coin hb (by omega)) ?_
    refine zV_aload_n dX1_become_16 rfl 1 rfl rfl ?_
    refine zV_getr (q' := (a + 1)) 0 dX1_become_17 rfl fl_RX1_11 (sh_land ha) (by decide) rfl (R_coins ha) ?_
    refine zV_iload_n dX1_become_20 rfl 2 rfl rfl ?_
    refine zV_aaload (q' := (a + 3 + c)) c dX1_become_21 rfl (sh_coins ha) rfl (by decide) rfl (by omega) (by decide) (R_coin ha (by omega)) ?_
    refine zV_callV (E' := eX0_become (g_rmv 0)) (av := [.ref (a + 3 + c)]) (st := []) (b := (b + 3 + c)) dX1_become_22 rfl (k_RX1_38 _) rfl ⟨by decide, by decide⟩ ⟨by decide, by decide⟩ (Or.inl rfl) rfl (Nat.le_of_ble_eq_true rfl) (sh_coin hb (by omega)) rfl rfl (c_coinBecome (k := σ.2.1 c) (sh_coin hb (by omega)) (sh_coin ha (by omega)) (by omega) (fun f hf => by rw [h1.2 (a + 3 + c) (by omega)]; exact hA.2.1 c hc f hf)) (fun r22 M22 z => ?_)
    obtain ⟨I22, rfl, rfl, hK22, hF22⟩ := z
    show zV G (eX1_become (g_rmv 1)) (0, 0) 25 [(0, .ref b), (1, .ref a), (2, .int (nI c))] [] (mm I22 J t) _
    refine zV_iinc (y := (nI (c + 1))) (lv' := [(0, .ref b), (1, .ref a), (2, .int (nI (c + 1)))]) dX1_become_25 rfl 2 rfl (nI_1 _) (by decide) rfl ?_
    refine zV_goto (tgt := 2) dX1_become_28 rfl ?_
    exact ih _ ⟨fun c' hc' f hf => by
        by_cases e : c' = c
        · subst e; exact hK22 f hf
        · rw [hF22 (b + 3 + c') (by omega)]; exact h1.1 c' (by omega) f hf, h1.2.tr (frL.coin (by omega) hF22)⟩

set_option maxRecDepth 100000 in
theorem c_isA {G : mG} {I : Nat → Nat → Int32} {J : Nat → Nat → Int64} {t : Nat} {q B : Nat} {k : Nat → Nat} (hq : sh0[q]? = some (0, 0, 6)) (hK : absK I q k) (hw : wfK B k) {w : Nat} (hw7 : w < 7) : zC G yX0_isA (eX0_isA (g_rmv 0)) [.ref q, .int (nI w)] (mm I J t) (fun r M => r = some (.int (b2 (k_isA (k 0) w = true))) ∧ M = mm I J t) := by
  refine zC_of (by decide +kernel) rfl (by decide) (Nat.le_of_ble_eq_true rfl) ?_
  obtain ⟨w0, w1, w2, w3, w4, w5, w6⟩ := id hw
  rcases (show k 0 = 0 ∨ k 0 = 1 ∨ k 0 = 2 ∨ k 0 = 3 ∨ k 0 = 4 ∨ k 0 = 5 ∨ k 0 = 6 by omega) with e | e | e | e | e | e | e
  · show zV G (eX0_isA (g_rmv 0)) (0, 0) 0 [(0, .ref q), (1, .int (nI w))] [] (mm I J t) _
    refine zV_aload_n dX0_isA_0 rfl 0 rfl rfl ?_
    refine zV_getI (x := (nI 0)) 0 dX0_isA_1 rfl fl_RX0_9 hq (by decide) rfl (by rw [hK 0 (by decide), e]) ?_
    refine zV_istore_n (lv' := [(0, .ref q), (1, .int (nI w)), (2, .int (nI 0))]) dX0_isA_4 rfl rfl (by decide) rfl ?_
    refine zV_iconst (v := (nI 0)) dX0_isA_5 rfl rfl ?_
    refine zV_istore_n (lv' := [(0, .ref q), (1, .int (nI w)), (2, .int (nI 0)), (3, .int (nI 0))]) dX0_isA_6 rfl rfl (by decide) rfl ?_
    refine zV_iload_n dX0_isA_7 rfl 3 rfl rfl ?_
    refine zV_bipush (v := (nI 7)) dX0_isA_8 rfl rfl ?_
    refine zN_icmp_ge (tgt := 42) dX0_isA_10 rfl rfl (by decide) (by decide) (fun z => absurd z (by decide)) (fun _ => ?_)
    refine zV_iload_n dX0_isA_13 rfl 2 rfl rfl ?_
    refine zN_if_lt (tgt := 42) dX0_isA_14 rfl (by decide) rfl ?_
    refine zV_iload_n dX0_isA_17 rfl 2 rfl rfl ?_
    refine zV_bipush (v := (nI 7)) dX0_isA_18 rfl rfl ?_
    refine zN_icmp_ge (tgt := 42) dX0_isA_20 rfl rfl (by decide) (by decide) (fun z => absurd z (by decide)) (fun _ => ?_)
    refine zV_iload_n dX0_isA_23 rfl 2 rfl rfl ?_
    refine zV_iload_n dX0_isA_24 rfl 1 rfl rfl ?_
    refine zN_icmp_ne (tgt := 30) dX0_isA_25 rfl rfl (by omega) (by omega) (fun h25 => ?_) (fun h25 => ?_)
    · refine zV_gsAbove dX0_isA_30 rfl (by decide) ?_
      refine zV_iload_n dX0_isA_33 rfl 2 rfl rfl ?_
      refine zV_above 0 dX0_isA_34 rfl rfl (by decide) ?_
      refine zV_istore_n (lv' := [(0, .ref q), (1, .int (nI w)), (2, .int (-1)), (3, .int (nI 0))]) dX0_isA_35 rfl rfl (by decide) rfl ?_
      refine zV_iinc (y := (nI 1)) (lv' := [(0, .ref q), (1, .int (nI w)), (2, .int (-1)), (3, .int (nI 1))]) dX0_isA_36 rfl 3 rfl (rfl) (by decide) rfl ?_
      refine zV_goto (tgt := 7) dX0_isA_39 rfl ?_
      refine zV_iload_n dX0_isA_7 rfl 3 rfl rfl ?_
      refine zV_bipush (v := (nI 7)) dX0_isA_8 rfl rfl ?_
      refine zN_icmp_ge (tgt := 42) dX0_isA_10 rfl rfl (by decide) (by decide) (fun z => absurd z (by decide)) (fun _ => ?_)
      refine zV_iload_n dX0_isA_13 rfl 2 rfl rfl ?_
      refine zV_if_lt (tgt := 42) dX0_isA_14 rfl rfl  (fun _ => ?_) (fun z => absurd z (by decide))
      refine zV_iconst (v := (nI 0)) dX0_isA_42 rfl rfl ?_
      exact zV_ireturn dX0_isA_43 rfl rfl (⟨z_b0 (by simp_all [k_isA] <;> omega), rfl⟩)
    · refine zV_iconst (v := (nI 1)) dX0_isA_28 rfl rfl ?_
      exact zV_ireturn dX0_isA_29 rfl rfl (⟨z_b1 (by simp_all [k_isA] <;> omega), rfl⟩)
  · show zV G (eX0_isA (g_rmv 0)) (0, 0) 0 [(0, .ref q), (1, .int (nI w))] [] (mm I J t) _
    refine zV_aload_n dX0_isA_0 rfl 0 rfl rfl ?_
    refine zV_getI (x := (nI 1)) 0 dX0_isA_1 rfl fl_RX0_9 hq (by decide) rfl (by rw [hK 0 (by decide), e]) ?_
    refine zV_istore_n (lv' := [(0, .ref q), (1, .int (nI w)), (2, .int (nI 1))]) dX0_isA_4 rfl rfl (by decide) rfl ?_
    refine zV_iconst (v := (nI 0)) dX0_isA_5 rfl rfl ?_
    refine zV_istore_n (lv' := [(0, .ref q), (1, .int (nI w)), (2, .int (nI 1)), (3, .int (nI 0))]) dX0_isA_6 rfl rfl (by decide) rfl ?_
    refine zV_iload_n dX0_isA_7 rfl 3 rfl rfl ?_
    refine zV_bipush (v := (nI 7)) dX0_isA_8 rfl rfl ?_
    refine zN_icmp_ge (tgt := 42) dX0_isA_10 rfl rfl (by decide) (by decide) (fun z => absurd z (by decide)) (fun _ => ?_)
    refine zV_iload_n dX0_isA_13 rfl 2 rfl rfl ?_
    refine zN_if_lt (tgt := 42) dX0_isA_14 rfl (by decide) rfl ?_
    refine zV_iload_n dX0_isA_17 rfl 2 rfl rfl ?_
    refine zV_bipush (v := (nI 7)) dX0_isA_18 rfl rfl ?_
    refine zN_icmp_ge (tgt := 42) dX0_isA_20 rfl rfl (by decide) (by decide) (fun z => absurd z (by decide)) (fun _ => ?_)
    refine zV_iload_n dX0_isA_23 rfl 2 rfl rfl ?_
    refine zV_iload_n dX0_isA_24 rfl 1 rfl rfl ?_
    refine zN_icmp_ne (tgt := 30) dX0_isA_25 rfl rfl (by omega) (by omega) (fun h25 => ?_) (fun h25 => ?_)
    · refine zV_gsAbove dX0_isA_30 rfl (by decide) ?_
      refine zV_iload_n dX0_isA_33 rfl 2 rfl rfl ?_
      refine zV_above 1 dX0_isA_34 rfl rfl (by decide) ?_
      refine zV_istore_n (lv' := [(0, .ref q), (1, .int (nI w)), (2, .int (nI 0)), (3, .int (nI 0))]) dX0_isA_35 rfl rfl (by decide) rfl ?_
      refine zV_iinc (y := (nI 1)) (lv' := [(0, .ref q), (1, .int (nI w)), (2, .int (nI 0)), (3, .int (nI 1))]) dX0_isA_36 rfl 3 rfl (rfl) (by decide) rfl ?_
      refine zV_goto (tgt := 7) dX0_isA_39 rfl ?_
      refine zV_iload_n dX0_isA_7 rfl 3 rfl rfl ?_
      refine zV_bipush (v := (nI 7)) dX0_isA_8 rfl rfl ?_
      refine zN_icmp_ge (tgt := 42) dX0_isA_10 rfl rfl (by decide) (by decide) (fun z => absurd z (by decide)) (fun _ => ?_)
      refine zV_iload_n dX0_isA_13 rfl 2 rfl rfl ?_
      refine zN_if_lt (tgt := 42) dX0_isA_14 rfl (by decide) rfl ?_
      refine zV_iload_n dX0_isA_17 rfl 2 rfl rfl ?_
      refine zV_bipush (v := (nI 7)) dX0_isA_18 rfl rfl ?_
      refine zN_icmp_ge (tgt := 42) dX0_isA_20 rfl rfl (by decide) (by decide) (fun z => absurd z (by decide)) (fun _ => ?_)
      refine zV_iload_n dX0_isA_23 rfl 2 rfl rfl ?_
      refine zV_iload_n dX0_isA_24 rfl 1 rfl rfl ?_
      refine zN_icmp_ne (tgt := 30) dX0_isA_25 rfl rfl (by omega) (by omega) (fun h25 => ?_) (fun h25 => ?_)
      · refine zV_gsAbove dX0_isA_30 rfl (by decide) ?_
        refine zV_iload_n dX0_isA_33 rfl 2 rfl rfl ?_
        refine zV_above 0 dX0_isA_34 rfl rfl (by decide) ?_
        refine zV_istore_n (lv' := [(0, .ref q), (1, .int (nI w)), (2, .int (-1)), (3, .int (nI 1))]) dX0_isA_35 rfl rfl (by decide) rfl ?_
        refine zV_iinc (y := (nI 2)) (lv' := [(0, .ref q), (1, .int (nI w)), (2, .int (-1)), (3, .int (nI 2))]) dX0_isA_36 rfl 3 rfl (rfl) (by decide) rfl ?_
        refine zV_goto (tgt := 7) dX0_isA_39 rfl ?_
        refine zV_iload_n dX0_isA_7 rfl 3 rfl rfl ?_
        refine zV_bipush (v := (nI 7)) dX0_isA_8 rfl rfl ?_
        refine zN_icmp_ge (tgt := 42) dX0_isA_10 rfl rfl (by decide) (by decide) (fun z => absurd z (by decide)) (fun _ => ?_)
        refine zV_iload_n dX0_isA_13 rfl 2 rfl rfl ?_
        refine zV_if_lt (tgt := 42) dX0_isA_14 rfl rfl  (fun _ => ?_) (fun z => absurd z (by decide))
        refine zV_iconst (v := (nI 0)) dX0_isA_42 rfl rfl ?_
        exact zV_ireturn dX0_isA_43 rfl rfl (⟨z_b0 (by simp_all [k_isA] <;> omega), rfl⟩)
      · refine zV_iconst (v := (nI 1)) dX0_isA_28 rfl rfl ?_
        exact zV_ireturn dX0_isA_29 rfl rfl (⟨z_b1 (by simp_all [k_isA] <;> omega), rfl⟩)
    · refine zV_iconst (v := (nI 1)) dX0_isA_28 rfl rfl ?_
      exact zV_ireturn dX0_isA_29 rfl rfl (⟨z_b1 (by simp_all [k_isA] <;> omega), rfl⟩)
  · show zV G (eX0_isA (g_rmv 0)) (0, 0) 0 [(0, .ref q), (1, .int (nI w))] [] (mm I J t) _
    refine zV_aload_n dX0_isA_0 rfl 0 rfl rfl ?_
    refine zV_getI (x := (nI 2)) 0 dX0_isA_1 rfl fl_RX0_9 hq (by decide) rfl (by rw [hK 0 (by decide), e]) ?_
    refine zV_istore_n (lv' := [(0, .ref q), (1, .int (nI w)), (2, .int (nI 2))]) dX0_isA_4 rfl rfl (by decide) rfl ?_
    refine zV_iconst (v := (nI 0)) dX0_isA_5 rfl rfl ?_
    refine zV_istore_n (lv' := [(0, .ref q), (1, .int (nI w)), (2, .int (nI 2)), (3, .int (nI 0))]) dX0_isA_6 rfl rfl (by decide) rfl ?_
    refine zV_iload_n dX0_isA_7 rfl 3 rfl rfl ?_
    refine zV_bipush (v := (nI 7)) dX0_isA_8 rfl rfl ?_
    refine zN_icmp_ge (tgt := 42) dX0_isA_10 rfl rfl (by decide) (by decide) (fun z => absurd z (by decide)) (fun _ => ?_)
    refine zV_iload_n dX0_isA_13 rfl 2 rfl rfl ?_
    refine zN_if_lt (tgt := 42) dX0_isA_14 rfl (by decide) rfl ?_
    refine zV_iload_n dX0_isA_17 rfl 2 rfl rfl ?_
    refine zV_bipush (v := (nI 7)) dX0_isA_18 rfl rfl ?_
    refine zN_icmp_ge (tgt := 42) dX0_isA_20 rfl rfl (by decide) (by decide) (fun z => absurd z (by decide)) (fun _ => ?_)
    refine zV_iload_n dX0_isA_23 rfl 2 rfl rfl ?_
    refine zV_iload_n dX0_isA_24 rfl 1 rfl rfl ?_
    refine zN_icmp_ne (tgt := 30) dX0_isA_25 rfl rfl (by omega) (by omega) (fun h25 => ?_) (fun h25 => ?_)
    · refine zV_gsAbove dX0_isA_30 rfl (by decide) ?_
      refine zV_iload_n dX0_isA_33 rfl 2 rfl rfl ?_
      refine zV_above 2 dX0_isA_34 rfl rfl (by decide) ?_
      refine zV_istore_n (lv' := [(0, .ref q), (1, .int (nI w)), (2, .int (nI 0)), (3, .int (nI 0))]) dX0_isA_35 rfl rfl (by decide) rfl ?_
      refine zV_iinc (y := (nI 1)) (lv' := [(0, .ref q), (1, .int (nI w)), (2, .int (nI 0)), (3, .int (nI 1))]) dX0_isA_36 rfl 3 rfl (rfl) (by decide) rfl ?_
      refine zV_goto (tgt := 7) dX0_isA_39 rfl ?_
      refine zV_iload_n dX0_isA_7 rfl 3 rfl rfl ?_
      refine zV_bipush (v := (nI 7)) dX0_isA_8 rfl rfl ?_
      refine zN_icmp_ge (tgt := 42) dX0_isA_10 rfl rfl (by decide) (by decide) (fun z => absurd z (by decide)) (fun _ => ?_)
      refine zV_iload_n dX0_isA_13 rfl 2 rfl rfl ?_
      refine zN_if_lt (tgt := 42) dX0_isA_14 rfl (by decide) rfl ?_
      refine zV_iload_n dX0_isA_17 rfl 2 rfl rfl ?_
      refine zV_bipush (v := (nI 7)) dX0_isA_18 rfl rfl ?_
      refine zN_icmp_ge (tgt := 42) dX0_isA_20 rfl rfl (by decide) (by decide) (fun z => absurd z (by decide)) (fun _ => ?_)
      refine zV_iload_n dX0_isA_23 rfl 2 rfl rfl ?_
      refine zV_iload_n dX0_isA_24 rfl 1 rfl rfl ?_
      refine zN_icmp_ne (tgt := 30) dX0_isA_25 rfl rfl (by omega) (by omega) (fun h25 => ?_) (fun h25 => ?_)
      · refine zV_gsAbove dX0_isA_30 rfl (by decide) ?_
        refine zV_iload_n dX0_isA_33 rfl 2 rfl rfl ?_
        refine zV_above 0 dX0_isA_34 rfl rfl (by decide) ?_
        refine zV_istore_n (lv' := [(0, .ref q), (1, .int (nI w)), (2, .int (-1)), (3, .int (nI 1))]) dX0_isA_35 rfl rfl (by decide) rfl ?_
        refine zV_iinc (y := (nI 2)) (lv' := [(0, .ref q), (1, .int (nI w)), (2, .int (-1)), (3, .int (nI 2))]) dX0_isA_36 rfl 3 rfl (rfl) (by decide) rfl ?_
        refine zV_goto (tgt := 7) dX0_isA_39 rfl ?_
        refine zV_iload_n dX0_isA_7 rfl 3 rfl rfl ?_
        refine zV_bipush (v := (nI 7)) dX0_isA_8 rfl rfl ?_
        refine zN_icmp_ge (tgt := 42) dX0_isA_10 rfl rfl (by decide) (by decide) (fun z => absurd z (by decide)) (fun _ => ?_)
        refine zV_iload_n dX0_isA_13 rfl 2 rfl rfl ?_
        refine zV_if_lt (tgt := 42) dX0_isA_14 rfl rfl  (fun _ => ?_) (fun z => absurd z (by decide))
        refine zV_iconst (v := (nI 0)) dX0_isA_42 rfl rfl ?_
        exact zV_ireturn dX0_isA_43 rfl rfl (⟨z_b0 (by simp_all [k_isA] <;> omega), rfl⟩)
      · refine zV_iconst (v := (nI 1)) dX0_isA_28 rfl rfl ?_
        exact zV_ireturn dX0_isA_29 rfl rfl (⟨z_b1 (by simp_all [k_isA] <;> omega), rfl⟩)
    · refine zV_iconst (v := (nI 1)) dX0_isA_28 rfl rfl ?_
      exact zV_ireturn dX0_isA_29 rfl rfl (⟨z_b1 (by simp_all [k_isA] <;> omega), rfl⟩)
  · show zV G (eX0_isA (g_rmv 0)) (0, 0) 0 [(0, .ref q), (1, .int (nI w))] [] (mm I J t) _
    refine zV_aload_n dX0_isA_0 rfl 0 rfl rfl ?_
    refine zV_getI (x := (nI 3)) 0 dX0_isA_1 rfl fl_RX0_9 hq (by decide) rfl (by rw [hK 0 (by decide), e]) ?_
    refine zV_istore_n (lv' := [(0, .ref q), (1, .int (nI w)), (2, .int (nI 3))]) dX0_isA_4 rfl rfl (by decide) rfl ?_
    refine zV_iconst (v := (nI 0)) dX0_isA_5 rfl rfl ?_
    refine zV_istore_n (lv' := [(0, .ref q), (1, .int (nI w)), (2, .int (nI 3)), (3, .int (nI 0))]) dX0_isA_6 rfl rfl (by decide) rfl ?_
    refine zV_iload_n dX0_isA_7 rfl 3 rfl rfl ?_
    refine zV_bipush (v := (nI 7)) dX0_isA_8 rfl rfl ?_
    refine zN_icmp_ge (tgt := 42) dX0_isA_10 rfl rfl (by decide) (by decide) (fun z => absurd z (by decide)) (fun _ => ?_)
    refine zV_iload_n dX0_isA_13 rfl 2 rfl rfl ?_
    refine zN_if_lt (tgt := 42) dX0_isA_14 rfl (by decide) rfl ?_
    refine zV_iload_n dX0_isA_17 rfl 2 rfl rfl ?_
    refine zV_bipush (v := (nI 7)) dX0_isA_18 rfl rfl ?_
    refine zN_icmp_ge (tgt := 42) dX0_isA_20 rfl rfl (by decide) (by decide) (fun z => absurd z (by decide)) (fun _ => ?_)
    refine zV_iload_n dX0_isA_23 rfl 2 rfl rfl ?_
    refine zV_iload_n dX0_isA_24 rfl 1 rfl rfl ?_
    refine zN_icmp_ne (tgt := 30) dX0_isA_25 rfl rfl (by omega) (by omega) (fun h25 => ?_) (fun h25 => ?_)
    · refine zV_gsAbove dX0_isA_30 rfl (by decide) ?_
      refine zV_iload_n dX0_isA_33 rfl 2 rfl rfl ?_
      refine zV_above 3 dX0_isA_34 rfl rfl (by decide) ?_
      refine zV_istore_n (lv' := [(0, .ref q), (1, .int (nI w)), (2, .int (nI 2)), (3, .int (nI 0))]) dX0_isA_35 rfl rfl (by decide) rfl ?_
      refine zV_iinc (y := (nI 1)) (lv' := [(0, .ref q), (1, .int (nI w)), (2, .int (nI 2)), (3, .int (nI 1))]) dX0_isA_36 rfl 3 rfl (rfl) (by decide) rfl ?_
      refine zV_goto (tgt := 7) dX0_isA_39 rfl ?_
      refine zV_iload_n dX0_isA_7 rfl 3 rfl rfl ?_
      refine zV_bipush (v := (nI 7)) dX0_isA_8 rfl rfl ?_
      refine zN_icmp_ge (tgt := 42) dX0_isA_10 rfl rfl (by decide) (by decide) (fun z => absurd z (by decide)) (fun _ => ?_)
      refine zV_iload_n dX0_isA_13 rfl 2 rfl rfl ?_
      refine zN_if_lt (tgt := 42) dX0_isA_14 rfl (by decide) rfl ?_
      refine zV_iload_n dX0_isA_17 rfl 2 rfl rfl ?_
      refine zV_bipush (v := (nI 7)) dX0_isA_18 rfl rfl ?_
      refine zN_icmp_ge (tgt := 42) dX0_isA_20 rfl rfl (by decide) (by decide) (fun z => absurd z (by decide)) (fun _ => ?_)
      refine zV_iload_n dX0_isA_23 rfl 2 rfl rfl ?_
      refine zV_iload_n dX0_isA_24 rfl 1 rfl rfl ?_
      refine zN_icmp_ne (tgt := 30) dX0_isA_25 rfl rfl (by omega) (by omega) (fun h25 => ?_) (fun h25 => ?_)
      · refine zV_gsAbove dX0_isA_30 rfl (by decide) ?_
        refine zV_iload_n dX0_isA_33 rfl 2 rfl rfl ?_
        refine zV_above 2 dX0_isA_34 rfl rfl (by decide) ?_
        refine zV_istore_n (lv' := [(0, .ref q), (1, .int (nI w)), (2, .int (nI 0)), (3, .int (nI 1))]) dX0_isA_35 rfl rfl (by decide) rfl ?_
        refine zV_iinc (y := (nI 2)) (lv' := [(0, .ref q), (1, .int (nI w)), (2, .int (nI 0)), (3, .int (nI 2))]) dX0_isA_36 rfl 3 rfl (rfl) (by decide) rfl ?_
        refine zV_goto (tgt := 7) dX0_isA_39 rfl ?_
        refine zV_iload_n dX0_isA_7 rfl 3 rfl rfl ?_
        refine zV_bipush (v := (nI 7)) dX0_isA_8 rfl rfl ?_
        refine zN_icmp_ge (tgt := 42) dX0_isA_10 rfl rfl (by decide) (by decide) (fun z => absurd z (by decide)) (fun _ => ?_)
        refine zV_iload_n dX0_isA_13 rfl 2 rfl rfl ?_
        refine zN_if_lt (tgt := 42) dX0_isA_14 rfl (by decide) rfl ?_
        refine zV_iload_n dX0_isA_17 rfl 2 rfl rfl ?_
        refine zV_bipush (v := (nI 7)) dX0_isA_18 rfl rfl ?_
        refine zN_icmp_ge (tgt := 42) dX0_isA_20 rfl rfl (by decide) (by decide) (fun z => absurd z (by decide)) (fun _ => ?_)
        refine zV_iload_n dX0_isA_23 rfl 2 rfl rfl ?_
        refine zV_iload_n dX0_isA_24 rfl 1 rfl rfl ?_
        refine zN_icmp_ne (tgt := 30) dX0_isA_25 rfl rfl (by omega) (by omega) (fun h25 => ?_) (fun h25 => ?_)
        · refine zV_gsAbove dX0_isA_30 rfl (by decide) ?_
          refine zV_iload_n dX0_isA_33 rfl 2 rfl rfl ?_
          refine zV_above 0 dX0_isA_34 rfl rfl (by decide) ?_
          refine zV_istore_n (lv' := [(0, .ref q), (1, .int (nI w)), (2, .int (-1)), (3, .int (nI 2))]) dX0_isA_35 rfl rfl (by decide) rfl ?_
          refine zV_iinc (y := (nI 3)) (lv' := [(0, .ref q), (1, .int (nI w)), (2, .int (-1)), (3, .int (nI 3))]) dX0_isA_36 rfl 3 rfl (rfl) (by decide) rfl ?_
          refine zV_goto (tgt := 7) dX0_isA_39 rfl ?_
          refine zV_iload_n dX0_isA_7 rfl 3 rfl rfl ?_
          refine zV_bipush (v := (nI 7)) dX0_isA_8 rfl rfl ?_
          refine zN_icmp_ge (tgt := 42) dX0_isA_10 rfl rfl (by decide) (by decide) (fun z => absurd z (by decide)) (fun _ => ?_)
          refine zV_iload_n dX0_isA_13 rfl 2 rfl rfl ?_
          refine zV_if_lt (tgt := 42) dX0_isA_14 rfl rfl  (fun _ => ?_) (fun z => absurd z (by decide))
          refine zV_iconst (v := (nI 0)) dX0_isA_42 rfl rfl ?_
          exact zV_ireturn dX0_isA_43 rfl rfl (⟨z_b0 (by simp_all [k_isA] <;> omega), rfl⟩)
        · refine zV_iconst (v := (nI 1)) dX0_isA_28 rfl rfl ?_
          exact zV_ireturn dX0_isA_29 rfl rfl (⟨z_b1 (by simp_all [k_isA] <;> omega), rfl⟩)
      · refine zV_iconst (v := (nI 1)) dX0_isA_28 rfl rfl ?_
        exact zV_ireturn dX0_isA_29 rfl rfl (⟨z_b1 (by simp_all [k_isA] <;> omega), rfl⟩)
    · refine zV_iconst (v := (nI 1)) dX0_isA_28 rfl rfl ?_
      exact zV_ireturn dX0_isA_29 rfl rfl (⟨z_b1 (by simp_all [k_isA] <;> omega), rfl⟩)
  · show zV G (eX0_isA (g_rmv 0)) (0, 0) 0 [(0, .ref q), (1, .int (nI w))] [] (mm I J t) _
    refine zV_aload_n dX0_isA_0 rfl 0 rfl rfl ?_
    refine zV_getI (x := (nI 4)) 0 dX0_isA_1 rfl fl_RX0_9 hq (by decide) rfl (by rw [hK 0 (by decide), e]) ?_
    refine zV_istore_n (lv' := [(0, .ref q), (1, .int (nI w)), (2, .int (nI 4))]) dX0_isA_4 rfl rfl (by decide) rfl ?_
    refine zV_iconst (v := (nI 0)) dX0_isA_5 rfl rfl ?_
    refine zV_istore_n (lv' := [(0, .ref q), (1, .int (nI w)), (2, .int (nI 4)), (3, .int (nI 0))]) dX0_isA_6 rfl rfl (by decide) rfl ?_
    refine zV_iload_n dX0_isA_7 rfl 3 rfl rfl ?_
    refine zV_bipush (v := (nI 7)) dX0_isA_8 rfl rfl ?_
    refine zN_icmp_ge (tgt := 42) dX0_isA_10 rfl rfl (by decide) (by decide) (fun z => absurd z (by decide)) (fun _ => ?_)
    refine zV_iload_n dX0_isA_13 rfl 2 rfl rfl ?_
    refine zN_if_lt (tgt := 42) dX0_isA_14 rfl (by decide) rfl ?_
    refine zV_iload_n dX0_isA_17 rfl 2 rfl rfl ?_
    refine zV_bipush (v := (nI 7)) dX0_isA_18 rfl rfl ?_
    refine zN_icmp_ge (tgt := 42) dX0_isA_20 rfl rfl (by decide) (by decide) (fun z => absurd z (by decide)) (fun _ => ?_)
    refine zV_iload_n dX0_isA_23 rfl 2 rfl rfl ?_
    refine zV_iload_n dX0_isA_24 rfl 1 rfl rfl ?_
    refine zN_icmp_ne (tgt := 30) dX0_isA_25 rfl rfl (by omega) (by omega) (fun h25 => ?_) (fun h25 => ?_)
    · refine zV_gsAbove dX0_isA_30 rfl (by decide) ?_
      refine zV_iload_n dX0_isA_33 rfl 2 rfl rfl ?_
      refine zV_above 4 dX0_isA_34 rfl rfl (by decide) ?_
      refine zV_istore_n (lv' := [(0, .ref q), (1, .int (nI w)), (2, .int (nI 1)), (3, .int (nI 0))]) dX0_isA_35 rfl rfl (by decide) rfl ?_
      refine zV_iinc (y := (nI 1)) (lv' := [(0, .ref q), (1, .int (nI w)), (2, .int (nI 1)), (3, .int (nI 1))]) dX0_isA_36 rfl 3 rfl (rfl) (by decide) rfl ?_
      refine zV_goto (tgt := 7) dX0_isA_39 rfl ?_
      refine zV_iload_n dX0_isA_7 rfl 3 rfl rfl ?_
      refine zV_bipush (v := (nI 7)) dX0_isA_8 rfl rfl ?_
      refine zN_icmp_ge (tgt := 42) dX0_isA_10 rfl rfl (by decide) (by decide) (fun z => absurd z (by decide)) (fun _ => ?_)
      refine zV_iload_n dX0_isA_13 rfl 2 rfl rfl ?_
      refine zN_if_lt (tgt := 42) dX0_isA_14 rfl (by decide) rfl ?_
      refine zV_iload_n dX0_isA_17 rfl 2 rfl rfl ?_
      refine zV_bipush (v := (nI 7)) dX0_isA_18 rfl rfl ?_
      refine zN_icmp_ge (tgt := 42) dX0_isA_20 rfl rfl (by decide) (by decide) (fun z => absurd z (by decide)) (fun _ => ?_)
      refine zV_iload_n dX0_isA_23 rfl 2 rfl rfl ?_
      refine zV_iload_n dX0_isA_24 rfl 1 rfl rfl ?_
      refine zN_icmp_ne (tgt := 30) dX0_isA_25 rfl rfl (by omega) (by omega) (fun h25 => ?_) (fun h25 => ?_)
      · refine zV_gsAbove dX0_isA_30 rfl (by decide) ?_
        refine zV_iload_n dX0_isA_33 rfl 2 rfl rfl ?_
        refine zV_above 1 dX0_isA_34 rfl rfl (by decide) ?_
        refine zV_istore_n (lv' := [(0, .ref q), (1, .int (nI w)), (2, .int (nI 0)), (3, .int (nI 1))]) dX0_isA_35 rfl rfl (by decide) rfl ?_
        refine zV_iinc (y := (nI 2)) (lv' := [(0, .ref q), (1, .int (nI w)), (2, .int (nI 0)), (3, .int (nI 2))]) dX0_isA_36 rfl 3 rfl (rfl) (by decide) rfl ?_
        refine zV_goto (tgt := 7) dX0_isA_39 rfl ?_
        refine zV_iload_n dX0_isA_7 rfl 3 rfl rfl ?_
        refine zV_bipush (v := (nI 7)) dX0_isA_8 rfl rfl ?_
        refine zN_icmp_ge (tgt := 42) dX0_isA_10 rfl rfl (by decide) (by decide) (fun z => absurd z (by decide)) (fun _ => ?_)
        refine zV_iload_n dX0_isA_13 rfl 2 rfl rfl ?_
        refine zN_if_lt (tgt := 42) dX0_isA_14 rfl (by decide) rfl ?_
        refine zV_iload_n dX0_isA_17 rfl 2 rfl rfl ?_
        refine zV_bipush (v := (nI 7)) dX0_isA_18 rfl rfl ?_
        refine zN_icmp_ge (tgt := 42) dX0_isA_20 rfl rfl (by decide) (by decide) (fun z => absurd z (by decide)) (fun _ => ?_)
        refine zV_iload_n dX0_isA_23 rfl 2 rfl rfl ?_
        refine zV_iload_n dX0_isA_24 rfl 1 rfl rfl ?_
        refine zN_icmp_ne (tgt := 30) dX0_isA_25 rfl rfl (by omega) (by omega) (fun h25 => ?_) (fun h25 => ?_)
        · refine zV_gsAbove dX0_isA_30 rfl (by decide) ?_
          refine zV_iload_n dX0_isA_33 rfl 2 rfl rfl ?_
          refine zV_above 0 dX0_isA_34 rfl rfl (by decide) ?_
          refine zV_istore_n (lv' := [(0, .ref q), (1, .int (nI w)), (2, .int (-1)), (3, .int (nI 2))]) dX0_isA_35 rfl rfl (by decide) rfl ?_
          refine zV_iinc (y := (nI 3)) (lv' := [(0, .ref q), (1, .int (nI w)), (2, .int (-1)), (3, .int (nI 3))]) dX0_isA_36 rfl 3 rfl (rfl) (by decide) rfl ?_
          refine zV_goto (tgt := 7) dX0_isA_39 rfl ?_
          refine zV_iload_n dX0_isA_7 rfl 3 rfl rfl ?_
          refine zV_bipush (v := (nI 7)) dX0_isA_8 rfl rfl ?_
          refine zN_icmp_ge (tgt := 42) dX0_isA_10 rfl rfl (by decide) (by decide) (fun z => absurd z (by decide)) (fun _ => ?_)
          refine zV_iload_n dX0_isA_13 rfl 2 rfl rfl ?_
          refine zV_if_lt (tgt := 42) dX0_isA_14 rfl rfl  (fun _ => ?_) (fun z => absurd z (by decide))
          refine zV_iconst (v := (nI 0)) dX0_isA_42 rfl rfl ?_
          exact zV_ireturn dX0_isA_43 rfl rfl (⟨z_b0 (by simp_all [k_isA] <;> omega), rfl⟩)
        · refine zV_iconst (v := (nI 1)) dX0_isA_28 rfl rfl ?_
          exact zV_ireturn dX0_isA_29 rfl rfl (⟨z_b1 (by simp_all [k_isA] <;> omega), rfl⟩)
      · refine zV_iconst (v := (nI 1)) dX0_isA_28 rfl rfl ?_
        exact zV_ireturn dX0_isA_29 rfl rfl (⟨z_b1 (by simp_all [k_isA] <;> omega), rfl⟩)
    · refine zV_iconst (v := (nI 1)) dX0_isA_28 rfl rfl ?_
      exact zV_ireturn dX0_isA_29 rfl rfl (⟨z_b1 (by simp_all [k_isA] <;> omega), rfl⟩)
  · show zV G (eX0_isA (g_rmv 0)) (0, 0) 0 [(0, .ref q), (1, .int (nI w))] [] (mm I J t) _
    refine zV_aload_n dX0_isA_0 rfl 0 rfl rfl ?_
    refine zV_getI (x := (nI 5)) 0 dX0_isA_1 rfl fl_RX0_9 hq (by decide) rfl (by rw [hK 0 (by decide), e]) ?_
    refine zV_istore_n (lv' := [(0, .ref q), (1, .int (nI w)), (2, .int (nI 5))]) dX0_isA_4 rfl rfl (by decide) rfl ?_
    refine zV_iconst (v := (nI 0)) dX0_isA_5 rfl rfl ?_
    refine zV_istore_n (lv' := [(0, .ref q), (1, .int (nI w)), (2, .int (nI 5)), (3, .int (nI 0))]) dX0_isA_6 rfl rfl (by decide) rfl ?_
    refine zV_iload_n dX0_isA_7 rfl 3 rfl rfl ?_
    refine zV_bipush (v := (nI 7)) dX0_isA_8 rfl rfl ?_
    refine zN_icmp_ge (tgt := 42) dX0_isA_10 rfl rfl (by decide) (by decide) (fun z => absurd z (by decide)) (fun _ => ?_)
    refine zV_iload_n dX0_isA_13 rfl 2 rfl rfl ?_
    refine zN_if_lt (tgt := 42) dX0_isA_14 rfl (by decide) rfl ?_
    refine zV_iload_n dX0_isA_17 rfl 2 rfl rfl ?_
    refine zV_bipush (v := (nI 7)) dX0_isA_18 rfl rfl ?_
    refine zN_icmp_ge (tgt := 42) dX0_isA_20 rfl rfl (by decide) (by decide) (fun z => absurd z (by decide)) (fun _ => ?_)
    refine zV_iload_n dX0_isA_23 rfl 2 rfl rfl ?_
    refine zV_iload_n dX0_isA_24 rfl 1 rfl rfl ?_
    refine zN_icmp_ne (tgt := 30) dX0_isA_25 rfl rfl (by omega) (by omega) (fun h25 => ?_) (fun h25 => ?_)
    · refine zV_gsAbove dX0_isA_30 rfl (by decide) ?_
      refine zV_iload_n dX0_isA_33 rfl 2 rfl rfl ?_
      refine zV_above 5 dX0_isA_34 rfl rfl (by decide) ?_
      refine zV_istore_n (lv' := [(0, .ref q), (1, .int (nI w)), (2, .int (nI 0)), (3, .int (nI 0))]) dX0_isA_35 rfl rfl (by decide) rfl ?_
      refine zV_iinc (y := (nI 1)) (lv' := [(0, .ref q), (1, .int (nI w)), (2, .int (nI 0)), (3, .int (nI 1))]) dX0_isA_36 rfl 3 rfl (rfl) (by decide) rfl ?_
      refine zV_goto (tgt := 7) dX0_isA_39 rfl ?_
      refine zV_iload_n dX0_isA_7 rfl 3 rfl rfl ?_
      refine zV_bipush (v := (nI 7)) dX0_isA_8 rfl rfl ?_
      refine zN_icmp_ge (tgt := 42) dX0_isA_10 rfl rfl (by decide) (by decide) (fun z => absurd z (by decide)) (fun _ => ?_)
      refine zV_iload_n dX0_isA_13 rfl 2 rfl rfl ?_
      refine zN_if_lt (tgt := 42) dX0_isA_14 rfl (by decide) rfl ?_
      refine zV_iload_n dX0_isA_17 rfl 2 rfl rfl ?_
      refine zV_bipush (v := (nI 7)) dX0_isA_18 rfl rfl ?_
      refine zN_icmp_ge (tgt := 42) dX0_isA_20 rfl rfl (by decide) (by decide) (fun z => absurd z (by decide)) (fun _ => ?_)
      refine zV_iload_n dX0_isA_23 rfl 2 rfl rfl ?_
      refine zV_iload_n dX0_isA_24 rfl 1 rfl rfl ?_
      refine zN_icmp_ne (tgt := 30) dX0_isA_25 rfl rfl (by omega) (by omega) (fun h25 => ?_) (fun h25 => ?_)
      · refine zV_gsAbove dX0_isA_30 rfl (by decide) ?_
        refine zV_iload_n dX0_isA_33 rfl 2 rfl rfl ?_
        refine zV_above 0 dX0_isA_34 rfl rfl (by decide) ?_
        refine zV_istore_n (lv' := [(0, .ref q), (1, .int (nI w)), (2, .int (-1)), (3, .int (nI 1))]) dX0_isA_35 rfl rfl (by decide) rfl ?_
        refine zV_iinc (y := (nI 2)) (lv' := [(0, .ref q), (1, .int (nI w)), (2, .int (-1)), (3, .int (nI 2))]) dX0_isA_36 rfl 3 rfl (rfl) (by decide) rfl ?_
        refine zV_goto (tgt := 7) dX0_isA_39 rfl ?_
        refine zV_iload_n dX0_isA_7 rfl 3 rfl rfl ?_
        refine zV_bipush (v := (nI 7)) dX0_isA_8 rfl rfl ?_
        refine zN_icmp_ge (tgt := 42) dX0_isA_10 rfl rfl (by decide) (by decide) (fun z => absurd z (by decide)) (fun _ => ?_)
        refine zV_iload_n dX0_isA_13 rfl 2 rfl rfl ?_
        refine zV_if_lt (tgt := 42) dX0_isA_14 rfl rfl  (fun _ => ?_) (fun z => absurd z (by decide))
        refine zV_iconst (v := (nI 0)) dX0_isA_42 rfl rfl ?_
        exact zV_ireturn dX0_isA_43 rfl rfl (⟨z_b0 (by simp_all [k_isA] <;> omega), rfl⟩)
      · refine zV_iconst (v := (nI 1)) dX0_isA_28 rfl rfl ?_
        exact zV_ireturn dX0_isA_29 rfl rfl (⟨z_b1 (by simp_all [k_isA] <;> omega), rfl⟩)
    · refine zV_iconst (v := (nI 1)) dX0_isA_28 rfl rfl ?_
      exact zV_ireturn dX0_isA_29 rfl rfl (⟨z_b1 (by simp_all [k_isA] <;> omega), rfl⟩)
  · show zV G (eX0_isA (g_rmv 0)) (0, 0) 0 [(0, .ref q), (1, .int (nI w))] [] (mm I J t) _
    refine zV_aload_n dX0_isA_0 rfl 0 rfl rfl ?_
    refine zV_getI (x := (nI 6)) 0 dX0_isA_1 rfl fl_RX0_9 hq (by decide) rfl (by rw [hK 0 (by decide), e]) ?_
    refine zV_istore_n (lv' := [(0, .ref q), (1, .int (nI w)), (2, .int (nI 6))]) dX0_isA_4 rfl rfl (by decide) rfl ?_
    refine zV_iconst (v := (nI 0)) dX0_isA_5 rfl rfl ?_
    refine zV_istore_n (lv' := [(0, .ref q), (1, .int (nI w)), (2, .int (nI 6)), (3, .int (nI 0))]) dX0_isA_6 rfl rfl (by decide) rfl ?_
    refine zV_iload_n dX0_isA_7 rfl 3 rfl rfl ?_
    refine zV_bipush (v := (nI 7)) dX0_isA_8 rfl rfl ?_
    refine zN_icmp_ge (tgt := 42) dX0_isA_10 rfl rfl (by decide) (by decide) (fun z => absurd z (by decide)) (fun _ => ?_)
    refine zV_iload_n dX0_isA_13 rfl 2 rfl rfl ?_
    refine zN_if_lt (tgt := 42) dX0_isA_14 rfl (by decide) rfl ?_
    refine zV_iload_n dX0_isA_17 rfl 2 rfl rfl ?_
    refine zV_bipush (v := (nI 7)) dX0_isA_18 rfl rfl ?_
    refine zN_icmp_ge (tgt := 42) dX0_isA_20 rfl rfl (by decide) (by decide) (fun z => absurd z (by decide)) (fun _ => ?_)
    refine zV_iload_n dX0_isA_23 rfl 2 rfl rfl ?_
    refine zV_iload_n dX0_isA_24 rfl 1 rfl rfl ?_
    refine zN_icmp_ne (tgt := 30) dX0_isA_25 rfl rfl (by omega) (by omega) (fun h25 => ?_) (fun h25 => ?_)
    · refine zV_gsAbove dX0_isA_30 rfl (by decide) ?_
      refine zV_iload_n dX0_isA_33 rfl 2 rfl rfl ?_
      refine zV_above 6 dX0_isA_34 rfl rfl (by decide) ?_
      refine zV_istore_n (lv' := [(0, .ref q), (1, .int (nI w)), (2, .int (nI 5)), (3, .int (nI 0))]) dX0_isA_35 rfl rfl (by decide) rfl ?_
      refine zV_iinc (y := (nI 1)) (lv' := [(0, .ref q), (1, .int (nI w)), (2, .int (nI 5)), (3, .int (nI 1))]) dX0_isA_36 rfl 3 rfl (rfl) (by decide) rfl ?_
      refine zV_goto (tgt := 7) dX0_isA_39 rfl ?_
      refine zV_iload_n dX0_isA_7 rfl 3 rfl rfl ?_
      refine zV_bipush (v := (nI 7)) dX0_isA_8 rfl rfl ?_
      refine zN_icmp_ge (tgt := 42) dX0_isA_10 rfl rfl (by decide) (by decide) (fun z => absurd z (by decide)) (fun _ => ?_)
      refine zV_iload_n dX0_isA_13 rfl 2 rfl rfl ?_
      refine zN_if_lt (tgt := 42) dX0_isA_14 rfl (by decide) rfl ?_
      refine zV_iload_n dX0_isA_17 rfl 2 rfl rfl ?_
      refine zV_bipush (v := (nI 7)) dX0_isA_18 rfl rfl ?_
      refine zN_icmp_ge (tgt := 42) dX0_isA_20 rfl rfl (by decide) (by decide) (fun z => absurd z (by decide)) (fun _ => ?_)
      refine zV_iload_n dX0_isA_23 rfl 2 rfl rfl ?_
      refine zV_iload_n dX0_isA_24 rfl 1 rfl rfl ?_
      refine zN_icmp_ne (tgt := 30) dX0_isA_25 rfl rfl (by omega) (by omega) (fun h25 => ?_) (fun h25 => ?_)
      · refine zV_gsAbove dX0_isA_30 rfl (by decide) ?_
        refine zV_iload_n dX0_isA_33 rfl 2 rfl rfl ?_
        refine zV_above 5 dX0_isA_34 rfl rfl (by decide) ?_
        refine zV_istore_n (lv' := [(0, .ref q), (1, .int (nI w)), (2, .int (nI 0)), (3, .int (nI 1))]) dX0_isA_35 rfl rfl (by decide) rfl ?_
        refine zV_iinc (y := (nI 2)) (lv' := [(0, .ref q), (1, .int (nI w)), (2, .int (nI 0)), (3, .int (nI 2))]) dX0_isA_36 rfl 3 rfl (rfl) (by decide) rfl ?_
        refine zV_goto (tgt := 7) dX0_isA_39 rfl ?_
        refine zV_iload_n dX0_isA_7 rfl 3 rfl rfl ?_
        refine zV_bipush (v := (nI 7)) dX0_isA_8 rfl rfl ?_
        refine zN_icmp_ge (tgt := 42) dX0_isA_10 rfl rfl (by decide) (by decide) (fun z => absurd z (by decide)) (fun _ => ?_)
        refine zV_iload_n dX0_isA_13 rfl 2 rfl rfl ?_
        refine zN_if_lt (tgt := 42) dX0_isA_14 rfl (by decide) rfl ?_
        refine zV_iload_n dX0_isA_17 rfl 2 rfl rfl ?_
        refine zV_bipush (v := (nI 7)) dX0_isA_18 rfl rfl ?_
        refine zN_icmp_ge (tgt := 42) dX0_isA_20 rfl rfl (by decide) (by decide) (fun z => absurd z (by decide)) (fun _ => ?_)
        refine zV_iload_n dX0_isA_23 rfl 2 rfl rfl ?_
        refine zV_iload_n dX0_isA_24 rfl 1 rfl rfl ?_
        refine zN_icmp_ne (tgt := 30) dX0_isA_25 rfl rfl (by omega) (by omega) (fun h25 => ?_) (fun h25 => ?_)
        · refine zV_gsAbove dX0_isA_30 rfl (by decide) ?_
          refine zV_iload_n dX0_isA_33 rfl 2 rfl rfl ?_
          refine zV_above 0 dX0_isA_34 rfl rfl (by decide) ?_
          refine zV_istore_n (lv' := [(0, .ref q), (1, .int (nI w)), (2, .int (-1)), (3, .int (nI 2))]) dX0_isA_35 rfl rfl (by decide) rfl ?_
          refine zV_iinc (y := (nI 3)) (lv' := [(0, .ref q), (1, .int (nI w)), (2, .int (-1)), (3, .int (nI 3))]) dX0_isA_36 rfl 3 rfl (rfl) (by decide) rfl ?_
          refine zV_goto (tgt := 7) dX0_isA_39 rfl ?_
          refine zV_iload_n dX0_isA_7 rfl 3 rfl rfl ?_
          refine zV_bipush (v := (nI 7)) dX0_isA_8 rfl rfl ?_
          refine zN_icmp_ge (tgt := 42) dX0_isA_10 rfl rfl (by decide) (by decide) (fun z => absurd z (by decide)) (fun _ => ?_)
          refine zV_iload_n dX0_isA_13 rfl 2 rfl rfl ?_
          refine zV_if_lt (tgt := 42) dX0_isA_14 rfl rfl  (fun _ => ?_) (fun z => absurd z (by decide))
          refine zV_iconst (v := (nI 0)) dX0_isA_42 rfl rfl ?_
          exact zV_ireturn dX0_isA_43 rfl rfl (⟨z_b0 (by simp_all [k_isA] <;> omega), rfl⟩)
        · refine zV_iconst (v := (nI 1)) dX0_isA_28 rfl rfl ?_
          exact zV_ireturn dX0_isA_29 rfl rfl (⟨z_b1 (by simp_all [k_isA] <;> omega), rfl⟩)
      · refine zV_iconst (v := (nI 1)) dX0_isA_28 rfl rfl ?_
        exact zV_ireturn dX0_isA_29 rfl rfl (⟨z_b1 (by simp_all [k_isA] <;> omega), rfl⟩)
    · refine zV_iconst (v := (nI 1)) dX0_isA_28 rfl rfl ?_
      exact zV_ireturn dX0_isA_29 rfl rfl (⟨z_b1 (by simp_all [k_isA] <;> omega), rfl⟩)
