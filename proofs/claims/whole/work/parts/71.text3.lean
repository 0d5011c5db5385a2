/-! TEXTS: readText, text of the class -/
theorem rAns_sgn {tp : Nat → Nat} {L : Nat} (hL : L ≤ 120) {σ : aL} : ((rAns tp L σ).2 = none → (rAns tp L σ).1 < 0) ∧ ∀ τ, (rAns tp L σ).2 = some τ → ¬ (rAns tp L σ).1 < 0 := by
  cases e : rTx tp L σ (rTn tp L σ) with
  | none =>
    have e0 : rAns tp L σ = (-1, none) := by
      unfold rAns
      rw [e]
    rw [e0]
    exact ⟨fun _ => show (-1 : Int32) < 0 by decide, fun τ h => absurd h.symm (Option.some_ne_none _)⟩
  | some q =>
    obtain ⟨b, τ0⟩ := q
    have hb := rTx_b _ _ _ e
    have hi := (rItem_b (tp := tp) (σ := τ0) (nxt_all (tp := tp) hb.2).1).1
    have hn : rTn tp L σ ≤ 120 := fa_first_le _ 120
    have h1 := hi.2.1
    have h2 := hi.2.2.1
    by_cases hc : ((rItem tp L (nxt tp L b) τ0).1 = true ∧ (rItem tp L (nxt tp L b) τ0).2.1.1 = 0)
    · have e0 : rAns tp L σ = (nI (rTn tp L σ + 1), some (rItem tp L (nxt tp L b) τ0).2.2) := by
        unfold rAns
        rw [e]
        exact if_pos hc
      rw [e0]
      exact ⟨fun h => absurd h (Option.some_ne_none _), fun τ _ => nI_pos (by omega)⟩
    · have e0 : rAns tp L σ = (-1 - nI (rItem tp L (nxt tp L b) τ0).2.1.2.1, none) := by
        unfold rAns
        rw [e]
        exact if_neg hc
      generalize (rItem tp L (nxt tp L b) τ0).2.1.2.1 = x at e0 h1
      generalize (rItem tp L (nxt tp L b) τ0).2.1.2.2.1 = y at h1 h2
      rw [e0]
      refine ⟨fun _ => ?_, fun τ h => absurd h.symm (Option.some_ne_none _)⟩
      have e1 : (-1 - nI x : Int32).toInt = -1 - (x : Int) := by
        rw [Int32.toInt_sub, nI_toInt (by omega), show (-1 : Int32).toInt = -1 from rfl]
        exact Int.bmod_eq_of_le (by omega) (by omega)
      show -1 - nI x < 0
      rw [Int32.lt_iff_toInt_lt, e1, show (0 : Int32).toInt = 0 from rfl]
      omega
theorem InvC.textL {I I' : Nat → Nat → Int32} {B : Nat} {S : aS} {τ : aL} (h : InvC I S) (hw : wfS B S) (hA : absL I' 1 τ) (hn : τ.1 ≤ 10) (hf : ∀ i, ¬ (1 ≤ i ∧ i < 14) → ¬ scr i → i < 76 → I' i = I i) : InvC (up2 I' 0 5 (nI 0)) (st_t (st_l S τ) (0, S.2.2.2.1.2)) := by
  obtain ⟨h1, h2, h3, h4, h5, h6, h7⟩ := h
  have ne : ∀ i, i ≠ 0 → up2 I' 0 5 (nI 0) i = I' i := fun i hi => by funext k; exact up2_ni hi
  have e0 := hf 0 (by omega) (by unfold scr; omega) (by decide)
  have e67 := hf 67 (by omega) (by unfold scr; omega) (by decide)
  refine ⟨hA.mv hn (fun i a b => ne i (by omega)), by rw [up2_nk (by decide), e0]; exact h2, fun k => (h3 k).mv (hw.2.2.1 k).1 (fun i a b => (ne i (by omega)).trans (hf i (by omega) (by unfold scr; omega) (by omega))), up2_same _ _ _ _, fun j hj => absurd hj (Nat.not_lt_zero _), fun i hi => by rw [ne 67 (by decide), e67]; exact h6 i hi, fun s hs => ?_⟩
  rw [ne (68 + 2 * s) (by omega), ne (69 + 2 * s) (by omega), hf (68 + 2 * s) (by omega) (by unfold scr; omega) (by omega), hf (69 + 2 * s) (by omega) (by unfold scr; omega) (by omega)]
  exact h7 s hs
set_option maxRecDepth 100000 in
theorem c_readText {G : mG} {I : Nat → Nat → Int32} {J : Nat → Nat → Int64} {t : Nat} {tp : Nat → Nat} {L B : Nat} {σ : aL} (hL : L ≤ 120) (htp : ∀ j, j < L → I 40 j = nI (tp j)) (h256 : ∀ j, tp j < 256) (hA : absL I 14 σ) (hW : wfL B σ) (hB : B + 242 < 1000000) : zC G yX3_readText (eX3_readText (g_rmv 8)) [.ref 41, .ref 40, .int (nI L), .ref 14] (mm I J t) (fun r M => ∃ I', r = some (.int (rAns tp L σ).1) ∧ M = mm I' J 40 ∧ (∀ τ, (rAns tp L σ).2 = some τ → absL I' 14 τ ∧ wfL (B + 242) τ) ∧ ∀ i, (i < 14 ∨ 27 ≤ i) → i ≠ 41 → I' i = I i) := by
  refine zC_of (by decide +kernel) rfl (by decide) (Nat.le_of_ble_eq_true rfl) ?_
  show zV G (eX3_readText (g_rmv 8)) (0, 0) 0 [(0, .ref 41), (1, .ref 40), (2, .int (nI L)), (3, .ref 14)] [] (mm I J t) _
  refine zV_aload_n dX3_readText_0 rfl 0 rfl rfl ?_
  refine zV_aload_n dX3_readText_1 rfl 1 rfl rfl ?_
  refine zV_putr (q' := 40) 0 dX3_readText_2 rfl fl_RX3_9 rfl (by decide) rfl (fun _ => rfl) (fun _ => rfl) ?_
  rw [Rf_40]
  show zV G (eX3_readText (g_rmv 8)) (0, 0) 5 [(0, .ref 41), (1, .ref 40), (2, .int (nI L)), (3, .ref 14)] [] (mm I J 40) _
  refine zV_aload_n dX3_readText_5 rfl 0 rfl rfl ?_
  refine zV_iload_n dX3_readText_6 rfl 2 rfl rfl ?_
  refine zV_aload_n dX3_readText_7 rfl 1 rfl rfl ?_
  refine zV_alen (v := nI 120) dX3_readText_8 rfl rfl (by decide) rfl ?_
  refine zV_callS (E' := eJ9_min_7cf53 (g_rmv 0)) (av := [.int (nI L), .int (nI 120)]) (st := [.ref 41]) dX3_readText_9 rfl (k_RX3_31 _) rfl ⟨by decide, by decide⟩ ⟨by decide, by decide⟩ (Or.inl rfl) rfl (Nat.le_of_ble_eq_true rfl) (c_minn (a := L) (b := 120) (by omega) (by decide)) (fun r9 M9 z => ?_)
  obtain ⟨rfl, rfl⟩ := z
  rw [show min L 120 = L from Nat.min_eq_left hL]
  show zV G (eX3_readText (g_rmv 8)) (0, 0) 12 [(0, .ref 41), (1, .ref 40), (2, .int (nI L)), (3, .ref 14)] [.int (nI L), .ref 41] (mm I J 40) _
  refine zV_puti 1 dX3_readText_12 rfl fl_RX3_15 rfl (by decide) rfl rfl rfl ?_
  refine zV_aload_n dX3_readText_15 rfl 0 rfl rfl ?_
  refine zV_iconst (v := (nI 0)) dX3_readText_16 rfl rfl ?_
  refine zV_puti 4 dX3_readText_17 rfl fl_RX3_25 rfl (by decide) rfl rfl rfl ?_
  refine zV_iconst (v := (nI 1)) dX3_readText_20 rfl rfl ?_
  refine zV_istore (lv' := [(0, .ref 41), (1, .ref 40), (2, .int (nI L)), (3, .ref 14), (4, .int (nI 1))]) dX3_readText_21 rfl (by decide) rfl ?_
  obtain ⟨s0, -, e2⟩ := wb_of32 (I 41 2)
  obtain ⟨t0, -, e3⟩ := wb_of32 (I 41 3)
  obtain ⟨v0, -, e5⟩ := wb_of32 (I 41 5)
  refine z_for (fun c => ∀ (I1 : Nat → Nat → Int32) (b : Nat) (τ : aL) (s0 t0 v0 : Nat), (rTx tp L σ c = some (b, τ) ∧ absL I1 14 τ ∧ wfL (B + 2 * c) τ ∧ tkC I1 (s0, t0, b, v0) ∧ rdC I1 tp L ∧ (∀ i, (i < 14 ∨ 27 ≤ i) → i ≠ 41 → I1 i = I i) ∧ ∀ i, i < c → (rTx tp L σ (i + 1)).isNone = false) → zV G (eX3_readText (g_rmv 8)) (0, 0) 23 [(0, .ref 41), (1, .ref 40), (2, .int (nI L)), (3, .ref 14), (4, .int (nI (c + 1)))] [] (mm I1 J 40) _) 120 ?_ ?_ 0 (Nat.zero_le _) (up2 (up2 I 41 1 (nI L)) 41 4 (nI 0)) 0 σ s0 t0 v0 ⟨rfl, hA.mv hW.1 (fun i a d => by funext k; rw [up2_ni (by omega), up2_ni (by omega)]), hW, ⟨by rw [up2_nk (by decide), up2_nk (by decide)]; exact e2, by rw [up2_nk (by decide), up2_nk (by decide)]; exact e3, up2_same _ _ _ _, by rw [up2_nk (by decide), up2_nk (by decide)]; exact e5⟩, ⟨by rw [up2_nk (by decide), up2_same], hL, fun j hj => by rw [up2_ni (by decide), up2_ni (by decide)]; exact htp j hj, h256⟩, fun i a d => by funext k; rw [up2_ni d, up2_ni d], fun i h => absurd h (Nat.not_lt_zero _)⟩
  · intro I1 b τ s0 t0 v0 h1
    have hbL := rTx_b _ _ _ h1.1
    omega
  · intro c hc ih I1 b τ s0 t0 v0 h1
    have hbL := rTx_b _ _ _ h1.1
    have hok := (nxt_all (tp := tp) hbL.2).1
    have hib := (rItem_b (tp := tp) (σ := τ) hok).1
    have hi1 := hib.1
    have hi2 := hib.2.1
    have hi3 := hib.2.2.1
    refine zV_iload dX3_readText_23 rfl 4 rfl ?_
    refine zV_bipush (v := (nI 120)) dX3_readText_25 rfl rfl ?_
    refine zN_icmp_gt (tgt := 80) dX3_readText_27 rfl rfl (by omega) (by omega) (fun z => absurd z (by omega)) (fun _ => ?_)
    refine zV_aload_n dX3_readText_30 rfl 0 rfl rfl ?_
    refine zV_callV (E' := eX3_step (g_rmv 1)) (av := []) (st := []) (b := 41) dX3_readText_31 rfl (k_RX3_37 _) rfl ⟨by decide, by decide⟩ ⟨by decide, by decide⟩ (Or.inl rfl) rfl (Nat.le_of_ble_eq_true rfl) rfl rfl rfl (c_step (tp := tp) (L := L) (s0 := s0) (t0 := t0) (b := b) (v0 := v0) h1.2.2.2.2.1 hbL.2 h1.2.2.2.1) (fun r31 M31 z => ?_)
    obtain ⟨I31, rfl, rfl, hT31, hF31⟩ := z
    have hA31 := h1.2.1.mv h1.2.2.1.1 (fun i a b => hF31.1 i (by omega))
    show zV G (eX3_readText (g_rmv 8)) (0, 0) 34 [(0, .ref 41), (1, .ref 40), (2, .int (nI L)), (3, .ref 14), (4, .int (nI (c + 1)))] [] (mm I31 J 40) _
    refine zV_aload_n dX3_readText_34 rfl 0 rfl rfl ?_
    refine zV_aload_n dX3_readText_35 rfl 3 rfl rfl ?_
    refine zV_callV (E' := eX3_readItem (g_rmv 7)) (av := [.ref 14]) (st := []) (b := 41) dX3_readText_36 rfl (k_RX3_40 _) rfl ⟨by decide, by decide⟩ ⟨by decide, by decide⟩ (Or.inl rfl) rfl (Nat.le_of_ble_eq_true rfl) rfl rfl rfl (c_readItem (tp := tp) (L := L) (k := nxt tp L b) (σ := τ) (hF31.use h1.2.2.2.2.1) hT31 hok hA31 h1.2.2.1) (fun r36 M36 z => ?_)
    obtain ⟨I36, rfl, rfl, q1, q2, q3⟩ := z
    show zV G (eX3_readText (g_rmv 8)) (0, 0) 39 [(0, .ref 41), (1, .ref 40), (2, .int (nI L)), (3, .ref 14), (4, .int (nI (c + 1)))] [.int (b2 ((rItem tp L (nxt tp L b) τ).1 = true))] (mm I36 J 40) _
    refine zB_if_eq (tgt := 57) dX3_readText_39 rfl rfl  (fun h39 => ?_) (fun h39 => ?_)
    · refine zV_iconst (v := (-1)) dX3_readText_57 rfl rfl ?_
      refine zV_aload_n dX3_readText_58 rfl 0 rfl rfl ?_
      refine zV_getI (x := (nI ((rItem tp L (nxt tp L b) τ).2.1.2.1))) 3 dX3_readText_59 rfl fl_RX3_22 rfl (by decide) rfl q1.2.1 ?_
      refine zA_isub (z := ((-1) - (nI ((rItem tp L (nxt tp L b) τ).2.1.2.1)))) dX3_readText_62 rfl  (rfl) ?_
      exact zV_ireturn dX3_readText_63 rfl rfl (⟨_, by rw [(rAns_n hc h1.2.2.2.2.2.2 h1.1 (fun z => h39 z.1))], rfl, (fun τ2 e2 => absurd ((congrArg Prod.snd (rAns_n hc h1.2.2.2.2.2.2 h1.1 (fun z => h39 z.1))).symm.trans e2).symm (Option.some_ne_none _)), fun i a d => by rw [q3.1 i a d, hF31.1 i d]; exact h1.2.2.2.2.2.1 i a d⟩)
    · refine zV_aload_n dX3_readText_42 rfl 0 rfl rfl ?_
      refine zV_getI (x := (nI ((rItem tp L (nxt tp L b) τ).2.1.1))) 2 dX3_readText_43 rfl fl_RX3_19 rfl (by decide) rfl q1.1 ?_
      refine zV_iconst (v := (nI 3)) dX3_readText_46 rfl rfl ?_
      refine zN_icmp_eq (tgt := 64) dX3_readText_47 rfl rfl (by omega) (by omega) (fun h47 => ?_) (fun h47 => ?_)
      · skip
        refine zV_aload_n dX3_readText_64 rfl 0 rfl rfl ?_
        refine zV_getI (x := (nI ((rItem tp L (nxt tp L b) τ).2.1.1))) 2 dX3_readText_65 rfl fl_RX3_19 rfl (by decide) rfl q1.1 ?_
        refine zN_if_ne (tgt := 74) dX3_readText_68 rfl rfl (by omega) (fun _ => ?_) (fun z => absurd z (by omega))
        refine zV_iinc (y := (nI ((c + 1) + 1))) (lv' := [(0, .ref 41), (1, .ref 40), (2, .int (nI L)), (3, .ref 14), (4, .int (nI ((c + 1) + 1)))]) dX3_readText_74 rfl 4 rfl (nI_1 _) (by decide) rfl ?_
        refine zV_goto (tgt := 23) dX3_readText_77 rfl ?_
        have y1 := rTx_y h1.1 h39 h47
        have w1 : wfL (B + 2 * (c + 1)) (rItem tp L (nxt tp L b) τ).2.2 := by
          have w := rItem_wf (tp := tp) (L := L) (B := B + 2 * c) (k := nxt tp L b) (σ := τ) h1.2.2.1 (by omega)
          rw [show B + 2 * (c + 1) = B + 2 * c + 2 by omega]
          exact w
        have hall : ∀ i, i < c + 1 → (rTx tp L σ (i + 1)).isNone = false := fun i hi => by
          by_cases e : i = c
          · rw [e, y1]; rfl
          · exact h1.2.2.2.2.2.2 i (by omega)
        have hf9 : ∀ i, (i < 14 ∨ 27 ≤ i) → i ≠ 41 → I36 i = I i := fun i a d => by rw [q3.1 i a d, hF31.1 i d]; exact h1.2.2.2.2.2.1 i a d
        have hr9 := q3.use (hF31.use h1.2.2.2.2.1)
        have ha9 := q2 h39
        clear hib hi1 hi2 hi3 h47 q2 q3 h39
        generalize rItem tp L (nxt tp L b) τ = R at y1 w1 q1 ha9
        exact ih I36 R.2.1.2.2.1 R.2.2 R.2.1.1 R.2.1.2.1 R.2.1.2.2.2 ⟨y1, ha9, w1, q1, hr9, hf9, hall⟩
      · skip
        refine zV_aload_n dX3_readText_50 rfl 0 rfl rfl ?_
        refine zV_getI (x := (nI ((rItem tp L (nxt tp L b) τ).2.1.1))) 2 dX3_readText_51 rfl fl_RX3_19 rfl (by decide) rfl q1.1 ?_
        refine zN_if_eq (tgt := 64) dX3_readText_54 rfl rfl (by omega) (fun h54 => ?_) (fun h54 => ?_)
        · skip
          refine zV_aload_n dX3_readText_64 rfl 0 rfl rfl ?_
          refine zV_getI (x := (nI ((rItem tp L (nxt tp L b) τ).2.1.1))) 2 dX3_readText_65 rfl fl_RX3_19 rfl (by decide) rfl q1.1 ?_
          refine zN_if_ne (tgt := 74) dX3_readText_68 rfl rfl (by omega) (fun z => absurd z (fun z => z (by omega))) (fun _ => ?_)
          refine zV_iload dX3_readText_71 rfl 4 rfl ?_
          exact zV_ireturn dX3_readText_73 rfl rfl (⟨_, by rw [(rAns_y hc h1.2.2.2.2.2.2 h1.1 h39 h54)], rfl, (fun τ2 e2 => by have e3 := Option.some.inj ((congrArg Prod.snd (rAns_y hc h1.2.2.2.2.2.2 h1.1 h39 h54)).symm.trans e2); rw [← e3]; exact ⟨q2 h39, (rItem_wf (tp := tp) (L := L) (k := nxt tp L b) h1.2.2.1 (by omega)).up (by omega) (by omega)⟩), fun i a d => by rw [q3.1 i a d, hF31.1 i d]; exact h1.2.2.2.2.2.1 i a d⟩)
        · skip
          refine zV_iconst (v := (-1)) dX3_readText_57 rfl rfl ?_
          refine zV_aload_n dX3_readText_58 rfl 0 rfl rfl ?_
          refine zV_getI (x := (nI ((rItem tp L (nxt tp L b) τ).2.1.2.1))) 3 dX3_readText_59 rfl fl_RX3_22 rfl (by decide) rfl q1.2.1 ?_
          refine zA_isub (z := ((-1) - (nI ((rItem tp L (nxt tp L b) τ).2.1.2.1)))) dX3_readText_62 rfl  (rfl) ?_
          exact zV_ireturn dX3_readText_63 rfl rfl (⟨_, by rw [(rAns_n hc h1.2.2.2.2.2.2 h1.1 (fun z => z.2.elim h47 h54))], rfl, (fun τ2 e2 => absurd ((congrArg Prod.snd (rAns_n hc h1.2.2.2.2.2.2 h1.1 (fun z => z.2.elim h47 h54))).symm.trans e2).symm (Option.some_ne_none _)), fun i a d => by rw [q3.1 i a d, hF31.1 i d]; exact h1.2.2.2.2.2.1 i a d⟩)

set_option maxRecDepth 100000 in
theorem p_text {G : mG} {I : Nat → Nat → Int32} {J : Nat → Nat → Int64} {t : Nat} {B : Nat} {S : aS} (hC : InvC I S) (hw : wfS B S) (hB : B + 242 < 1000000) : zC G yX6_text (eX6_text (g_rmv 9)) [.ref 0] (mm I J t) (fun r M => PC I (op_text S) r M) := by
  refine zC_of (by decide +kernel) rfl (by decide) (Nat.le_of_ble_eq_true rfl) ?_
  have n10 := hw.1.1
  show zV G (eX6_text (g_rmv 9)) (0, 0) 0 [(0, .ref 0)] [] (mm I J t) _
  refine zV_aload_n dX6_text_0 rfl 0 rfl rfl ?_
  refine zV_getr (q' := 14) 1 dX6_text_1 rfl fl_RX6_16 rfl (by decide) rfl rfl ?_
  refine zV_aload_n dX6_text_4 rfl 0 rfl rfl ?_
  refine zV_getr (q' := 1) 0 dX6_text_5 rfl fl_RX6_12 rfl (by decide) rfl rfl ?_
  refine zV_callV (E' := eX1_become (g_rmv 1)) (av := [.ref 1]) (st := []) (b := 14) dX6_text_8 rfl (k_RX6_191 _) rfl ⟨by decide, by decide⟩ ⟨by decide, by decide⟩ (Or.inl rfl) rfl (Nat.le_of_ble_eq_true rfl) (sh_land (Or.inr (Or.inl rfl))) rfl rfl (c_landBecome (Or.inl rfl) (Or.inr (Or.inl rfl)) (by decide) hC.1 hw.1) (fun r8 M8 z => ?_)
  obtain ⟨I8, rfl, rfl, hA8, hF8⟩ := z
  show zV G (eX6_text (g_rmv 9)) (0, 0) 11 [(0, .ref 0)] [] (mm I8 J t) _
  refine zV_aload_n dX6_text_11 rfl 0 rfl rfl ?_
  refine zV_getr (q' := 41) 6 dX6_text_12 rfl fl_RX6_37 rfl (by decide) rfl rfl ?_
  refine zV_aload_n dX6_text_15 rfl 0 rfl rfl ?_
  refine zV_getr (q' := 40) 4 dX6_text_16 rfl fl_RX6_26 rfl (by decide) rfl rfl ?_
  refine zV_aload_n dX6_text_19 rfl 0 rfl rfl ?_
  refine zV_getI (x := (nI S.2.2.2.1.1)) 5 dX6_text_20 rfl fl_RX6_30 rfl (by decide) rfl (by rw [hF8 0 (by omega)]; exact hC.2.2.2.1) ?_
  refine zV_aload_n dX6_text_23 rfl 0 rfl rfl ?_
  refine zV_getr (q' := 14) 1 dX6_text_24 rfl fl_RX6_16 rfl (by decide) rfl rfl ?_
  refine zV_callV (E' := eX3_readText (g_rmv 8)) (av := [.ref 40, .int (nI S.2.2.2.1.1), .ref 14]) (st := []) (b := 41) dX6_text_27 rfl (k_RX6_244 _) rfl ⟨by decide, by decide⟩ ⟨by decide, by decide⟩ (Or.inl rfl) rfl (Nat.le_of_ble_eq_true rfl) rfl rfl rfl (c_readText (tp := S.2.2.2.1.2) (L := S.2.2.2.1.1) (σ := S.1) (B := B) hw.2.2.2.1 (fun j hj => by rw [hF8 40 (by omega)]; exact hC.2.2.2.2.1 j hj) hw.2.2.2.2.1 hA8 hw.1 hB) (fun r27 M27 z => ?_)
  obtain ⟨I27, rfl, rfl, hX27, hF27⟩ := z
  show zV G (eX6_text (g_rmv 9)) (0, 0) 30 [(0, .ref 0)] [.int ((rAns S.2.2.2.1.2 S.2.2.2.1.1 S.1).1)] (mm I27 J 40) _
  refine zV_istore_n (lv' := [(0, .ref 0), (1, .int ((rAns S.2.2.2.1.2 S.2.2.2.1.1 S.1).1))]) dX6_text_30 rfl rfl (by decide) rfl ?_
  have hsg := rAns_sgn (tp := S.2.2.2.1.2) (σ := S.1) hw.2.2.2.1
  cases eo : (rAns S.2.2.2.1.2 S.2.2.2.1.1 S.1).2 with
  | none =>
    skip
    refine zV_iload_n dX6_text_31 rfl 1 rfl rfl ?_
    refine zV_if_lt (tgt := 46) dX6_text_32 rfl rfl  (fun _ => ?_) (fun z => absurd z (fun z => z (hsg.1 eo)))
    refine zV_aload_n dX6_text_46 rfl 0 rfl rfl ?_
    refine zV_iconst (v := (nI 0)) dX6_text_47 rfl rfl ?_
    refine zV_puti 5 dX6_text_48 rfl fl_RX6_30 rfl (by decide) rfl rfl rfl ?_
    refine zV_iload_n dX6_text_51 rfl 1 rfl rfl ?_
    exact zV_ireturn dX6_text_52 rfl rfl (⟨_, _, _, by rw [(show op_text S = ((rAns S.2.2.2.1.2 S.2.2.2.1.1 S.1).1, st_t S (0, S.2.2.2.1.2)) from by unfold op_text; rw [eo])], rfl, by rw [(show op_text S = ((rAns S.2.2.2.1.2 S.2.2.2.1.1 S.1).1, st_t S (0, S.2.2.2.1.2)) from by unfold op_text; rw [eo])]; exact (hC.mv hw (fun i hi _ => (hF27 i (by unfold scr at hi; omega) (by unfold scr at hi; omega)).trans (hF8 i (by unfold scr at hi; omega)))).tape0 hw, fun i hi => by rw [← (show I27 i = I i from (hF27 i (by omega) (by omega)).trans (hF8 i (by omega)))]; funext k; exact up2_ni (by omega)⟩)
  | some τ =>
    skip
    refine zV_iload_n dX6_text_31 rfl 1 rfl rfl ?_
    refine zV_if_lt (tgt := 46) dX6_text_32 rfl rfl  (fun z => absurd z (hsg.2 τ eo)) (fun _ => ?_)
    refine zV_aload_n dX6_text_35 rfl 0 rfl rfl ?_
    refine zV_getr (q' := 1) 0 dX6_text_36 rfl fl_RX6_12 rfl (by decide) rfl rfl ?_
    refine zV_aload_n dX6_text_39 rfl 0 rfl rfl ?_
    refine zV_getr (q' := 14) 1 dX6_text_40 rfl fl_RX6_16 rfl (by decide) rfl rfl ?_
    refine zV_callV (E' := eX1_become (g_rmv 1)) (av := [.ref 14]) (st := []) (b := 1) dX6_text_43 rfl (k_RX6_191 _) rfl ⟨by decide, by decide⟩ ⟨by decide, by decide⟩ (Or.inl rfl) rfl (Nat.le_of_ble_eq_true rfl) (sh_land (Or.inl rfl)) rfl rfl (c_landBecome (Or.inr (Or.inl rfl)) (Or.inl rfl) (by decide) (hX27 τ eo).1 (hX27 τ eo).2) (fun r43 M43 z => ?_)
    obtain ⟨I43, rfl, rfl, hA43, hF43⟩ := z
    show zV G (eX6_text (g_rmv 9)) (0, 0) 46 [(0, .ref 0), (1, .int ((rAns S.2.2.2.1.2 S.2.2.2.1.1 S.1).1))] [] (mm I43 J 40) _
    refine zV_aload_n dX6_text_46 rfl 0 rfl rfl ?_
    refine zV_iconst (v := (nI 0)) dX6_text_47 rfl rfl ?_
    refine zV_puti 5 dX6_text_48 rfl fl_RX6_30 rfl (by decide) rfl rfl rfl ?_
    refine zV_iload_n dX6_text_51 rfl 1 rfl rfl ?_
    exact zV_ireturn dX6_text_52 rfl rfl (⟨_, _, _, by rw [(show op_text S = ((rAns S.2.2.2.1.2 S.2.2.2.1.1 S.1).1, st_t (st_l S τ) (0, S.2.2.2.1.2)) from by unfold op_text; rw [eo])], rfl, by rw [(show op_text S = ((rAns S.2.2.2.1.2 S.2.2.2.1.1 S.1).1, st_t (st_l S τ) (0, S.2.2.2.1.2)) from by unfold op_text; rw [eo])]; exact hC.textL hw hA43 (hX27 τ eo).2.1 (fun i a b _ => (hF43 i (by omega)).trans ((hF27 i (by unfold scr at b; omega) (by unfold scr at b; omega)).trans (hF8 i (by unfold scr at b; omega)))), fun i hi => by rw [← (show I43 i = I i from (hF43 i (by omega)).trans ((hF27 i (by omega) (by omega)).trans (hF8 i (by omega))))]; funext k; exact up2_ni (by omega)⟩)
