/-! TEXTS: text of the reference -/
def goodT (tp : Nat → Nat) (L : Nat) (k : aT) : Prop := 3 ≤ k.1 → k.2.1 < L ∧ (k.1 = 3 ↔ tp k.2.1 = 59)
theorem nxt_g {tp : Nat → Nat} {L b : Nat} : goodT tp L (nxt tp L b) := by
  unfold nxt
  by_cases hl : scn isSp tp L b < L
  · rw [if_pos hl]
    by_cases hc : isLt (tp (scn isSp tp L b)) = true
    · rw [if_pos hc]
      exact fun z => absurd z (show ¬ 3 ≤ 1 by decide)
    · rw [if_neg hc]
      by_cases hd : isDg (tp (scn isSp tp L b)) = true
      · rw [if_pos hd]
        exact fun z => absurd z (show ¬ 3 ≤ 2 by decide)
      · rw [if_neg hd]
        refine fun _ => ⟨hl, ?_⟩
        show (if tp (scn isSp tp L b) = 59 then 3 else 4) = 3 ↔ tp (scn isSp tp L b) = 59
        by_cases e : tp (scn isSp tp L b) = 59
        · rw [if_pos e]; exact ⟨fun _ => e, fun _ => rfl⟩
        · rw [if_neg e]; exact ⟨fun z => absurd z (by decide), fun z => absurd z e⟩
  · rw [if_neg hl]
    exact fun z => absurd z (show ¬ 3 ≤ 0 by decide)
theorem rShip_g {tp : Nat → Nat} {L n : Nat} {k : aT} {σ : aL} (h : goodT tp L k) : goodT tp L (rShip tp L k σ n).2.1 := by
  unfold rShip
  split
  · exact nxt_g
  · exact h
theorem rItem_g {tp : Nat → Nat} {L : Nat} {k : aT} {σ : aL} (h : goodT tp L k) : goodT tp L (rItem tp L k σ).2.1 := by
  unfold rItem
  split
  · unfold rCoin
    split
    · split
      · split
        · split
          · split
            · exact rShip_g nxt_g
            · exact nxt_g
          · exact rShip_g nxt_g
        · exact nxt_g
      · exact nxt_g
    · exact h
  · split
    · unfold rPay
      split
      · split
        · split
          · exact nxt_g
          · exact nxt_g
        · exact nxt_g
      · exact nxt_g
    · exact h
def apn (E : Nat → Nat → Nat) (σ : aL) : Nat → aL
  | 0 => σ
  | n + 1 => ap1 (E n) (apn E σ n)
theorem apn_cong {E E' : Nat → Nat → Nat} {σ : aL} : ∀ n, (∀ i, i < n → E i = E' i) → apn E σ n = apn E' σ n
  | 0, _ => rfl
  | n + 1, h => by
    show ap1 (E n) (apn E σ n) = ap1 (E' n) (apn E' σ n)
    rw [h n (by omega), apn_cong n (fun i hi => h i (by omega))]
/-- the state of the reference behind its item c -/
def txS (tp : Nat → Nat) (L B : Nat) (σ : aL) (I I1 : Nat → Nat → Int32) (c b : Nat) (τ : aL) (E : Nat → Nat → Nat) (R : aR) : Prop := rTx tp L σ c = some (b, τ) ∧ (∀ i, i < c → (rTx tp L σ (i + 1)).isNone = false) ∧ apn E σ c = τ ∧ (∀ i, i < c → okE (E i) (apn E σ i)) ∧ (∀ i, i ≤ c → wfL (B + 2 * i) (apn E σ i)) ∧ (∀ i, i < c → ∀ f, f < 5 → I1 84 (5 * i + f) = nI (E i f)) ∧ tkM I1 R.2.1 ∧ I1 76 15 = nI (if R.1 = true then 0 else 1) ∧ (R.1 = true → ∃ e : Nat → Nat, ap1 e τ = R.2.2 ∧ okE e τ ∧ (∀ f, f < 5 → I1 84 (5 * c + f) = nI (e f)) ∧ I1 76 18 = nI (c + 1) ∧ I1 76 19 = nI R.2.2.1 ∧ ∀ c, c < R.2.2.1 → I1 85 c = nI (R.2.2.2.1 c 1)) ∧ (∀ i, i ≠ 76 → i ≠ 84 → i ≠ 85 → I1 i = I i) ∧ ∀ k, k < 11 → I1 76 k = I 76 k
theorem txS_go {tp : Nat → Nat} {L B c b : Nat} {σ τ : aL} {I I1 I2 I3 : Nat → Nat → Int32} {E : Nat → Nat → Nat} {e : Nat → Nat} {R R' : aR} (h : txS tp L B σ I I1 c b τ E R) (hy : rTx tp L σ (c + 1) = some (R.2.1.2.2.1, R.2.2)) (ha : ap1 e τ = R.2.2) (ho : okE e τ) (hit : ∀ f, f < 5 → I1 84 (5 * c + f) = nI (e f)) (hW : wfL (B + 2 * (c + 1)) R.2.2) (h12 : fr7 I1 I2) (h23 : rdn I2 I3 (c + 1) R.2.2 R') : txS tp L B σ I I3 (c + 1) R.2.1.2.2.1 R.2.2 (upN E c e) R' := by
  obtain ⟨a1, a2, a3, a4, a5, a6, a7, a8, a9, a10, a11⟩ := h
  obtain ⟨b1, b2, b3, b4, b5, b6⟩ := h23
  have eE : ∀ i, i < c → upN E c e i = E i := fun i hi => if_neg (by omega)
  have eC : upN E c e c = e := if_pos rfl
  have ap : ∀ i, i ≤ c → apn (upN E c e) σ i = apn E σ i := fun i hi => apn_cong i (fun j hj => eE j (by omega))
  have apc : apn (upN E c e) σ (c + 1) = R.2.2 := by
    show ap1 (upN E c e c) (apn (upN E c e) σ c) = _
    rw [eC, ap c (Nat.le_refl _), a3, ha]
  refine ⟨hy, fun i hi => ?_, apc, fun i hi => ?_, fun i hi => ?_, fun i hi f hf => ?_, b1, b2, b3, fun i h1 h2 h3 => by rw [b4 i h1 h2 h3, h12.1 i h1]; exact a10 i h1 h2 h3, fun k hk => by rw [b6 k hk, h12.2 k (by omega)]; exact a11 k hk⟩
  · by_cases ec : i = c
    · rw [ec, hy]; rfl
    · exact a2 i (by omega)
  · by_cases ec : i = c
    · rw [ec, eC, ap c (Nat.le_refl _), a3]; exact ho
    · rw [eE i (by omega), ap i (by omega)]; exact a4 i (by omega)
  · by_cases ec : i = c + 1
    · rw [ec, apc]; exact hW
    · rw [ap i (by omega)]; exact a5 i (by omega)
  · rw [b5 _ (by omega), h12.1 84 (by decide)]
    by_cases ec : i = c
    · rw [ec, eC]; exact hit f hf
    · rw [eE i (by omega)]; exact a6 i (by omega) f hf
theorem InvM.txt {I I1 : Nat → Nat → Int32} {S : aS} {τ : aL} (h : InvM I S) (hR : absR I1 77 τ) (hf : ∀ i, i ≠ 76 → i ≠ 77 → i ≠ 84 → i ≠ 85 → I1 i = I i) (h3 : I1 76 3 = I 76 3) (h10 : I1 76 10 = nI 0) : InvM I1 (st_t (st_l S τ) (0, S.2.2.2.1.2)) := by
  obtain ⟨g1, g2, g3, g4, g5, g6, g7⟩ := h
  exact ⟨hR, h3.trans g2, fun k => (g3 k).mv (hf 78 (by decide) (by decide) (by decide) (by decide)), h10, fun j hj => absurd hj (Nat.not_lt_zero _), by rw [hf 80 (by decide) (by decide) (by decide) (by decide)]; exact g6, by rw [hf 86 (by decide) (by decide) (by decide) (by decide), hf 87 (by decide) (by decide) (by decide) (by decide), hf 88 (by decide) (by decide) (by decide) (by decide)]; exact g7⟩
theorem opt_y {S : aS} {tp : Nat → Nat} {L : Nat} {v : Int32} {τ : aL} (htp : tp = S.2.2.2.1.2) (hLL : L = S.2.2.2.1.1) (h : rAns tp L S.1 = (v, some τ)) : op_text S = (v, st_t (st_l S τ) (0, S.2.2.2.1.2)) := by
  subst htp hLL
  unfold op_text
  rw [h]
theorem opt_n {S : aS} {tp : Nat → Nat} {L : Nat} {v : Int32} (htp : tp = S.2.2.2.1.2) (hLL : L = S.2.2.2.1.1) (h : rAns tp L S.1 = (v, none)) : op_text S = (v, st_t (st_l S S.1) (0, S.2.2.2.1.2)) := by
  subst htp hLL
  unfold op_text
  rw [h]
  rfl
theorem PM.txt {I I1 : Nat → Nat → Int32} {J : Nat → Nat → Int64} {t : Nat} {S : aS} {o : Int32 × aS} {v : Int32} {τ : aL} (h : InvM I S) (e : o = (v, st_t (st_l S τ) (0, S.2.2.2.1.2))) (hR : absR I1 77 τ) (hf : ∀ i, i ≠ 76 → i ≠ 77 → i ≠ 84 → i ≠ 85 → I1 i = I i) (h3 : I1 76 3 = I 76 3) (h10 : I1 76 10 = nI 0) : PM I o (some (.int v)) (mm I1 J t) := by
  subst e
  exact ⟨_, _, _, rfl, rfl, h.txt hR hf h3 h10, fun i hi => hf i (by omega) (by omega) (by omega) (by omega)⟩
set_option maxRecDepth 100000 in
theorem m_isSo {G : mG} {I : Nat → Nat → Int32} {J : Nat → Nat → Int64} {t : Nat} {B i : Nat} {σ : aL} {e : Nat → Nat} (hR : absR I 77 σ) (hW : wfL B σ) (hi0 : i < 100) (hi : ∀ f, f < 5 → I 84 (5 * i + f) = nI (e f)) (hoo : okE e σ) : zC G yX7_isSo (eX7_isSo (g_rmv 5)) [.ref 76, .int (nI (5 * i))] (mm I J t) (fun r M => ∃ I', r = none ∧ M = mm I' J t ∧ absR I' 77 (ap1 e σ) ∧ frM I I') := by
  refine zC_of (by decide +kernel) rfl (by decide) (Nat.le_of_ble_eq_true rfl) ?_
  obtain ⟨h010, ho⟩ := hoo
  have n10 := hW.1
  show zV G (eX7_isSo (g_rmv 5)) (0, 0) 0 [(0, .ref 76), (1, .int (nI (5 * i)))] [] (mm I J t) _
  by_cases e10 : e 0 = 10
  · rw [if_pos e10] at ho
    refine zV_aload_n dX7_isSo_0 rfl 0 rfl rfl ?_
    refine zV_getr (q' := 84) 17 dX7_isSo_1 rfl fl_RX7_49 rfl (by decide) rfl rfl ?_
    refine zV_iload_n dX7_isSo_4 rfl 1 rfl rfl ?_
    refine zV_iald (x := (nI 10)) (5 * i) dX7_isSo_5 rfl rfl rfl (by omega) (by decide) ((hi 0 (by decide)).trans (by rw [e10])) ?_
    refine zV_bipush (v := (nI 10)) dX7_isSo_6 rfl rfl ?_
    refine zN_icmp_ne (tgt := 34) dX7_isSo_8 rfl rfl (by decide) (by decide) (fun z => absurd z (by decide)) (fun _ => ?_)
    refine zV_aload_n dX7_isSo_11 rfl 0 rfl rfl ?_
    refine zV_aload_n dX7_isSo_12 rfl 0 rfl rfl ?_
    refine zV_getr (q' := 84) 17 dX7_isSo_13 rfl fl_RX7_49 rfl (by decide) rfl rfl ?_
    refine zV_iload_n dX7_isSo_16 rfl 1 rfl rfl ?_
    refine zV_iconst (v := (nI 1)) dX7_isSo_17 rfl rfl ?_
    refine zA_iadd (z := (nI ((5 * i) + 1))) dX7_isSo_18 rfl  (nI_add _ _) ?_
    refine zV_iald (x := (nI (e 1))) ((5 * i) + 1) dX7_isSo_19 rfl rfl rfl (by omega) (by decide) (hi 1 (by decide)) ?_
    refine zV_aload_n dX7_isSo_20 rfl 0 rfl rfl ?_
    refine zV_getr (q' := 84) 17 dX7_isSo_21 rfl fl_RX7_49 rfl (by decide) rfl rfl ?_
    refine zV_iload_n dX7_isSo_24 rfl 1 rfl rfl ?_
    refine zV_iconst (v := (nI 2)) dX7_isSo_25 rfl rfl ?_
    refine zA_iadd (z := (nI ((5 * i) + 2))) dX7_isSo_26 rfl  (nI_add _ _) ?_
    refine zV_iald (x := (nI (e 2))) ((5 * i) + 2) dX7_isSo_27 rfl rfl rfl (by omega) (by decide) (hi 2 (by decide)) ?_
    refine zV_callV (E' := eX7_paid (g_rmv 4)) (av := [.int (nI (e 1)), .int (nI (e 2))]) (st := []) (b := 76) dX7_isSo_28 rfl (k_RX7_155 _) rfl ⟨by decide, by decide⟩ ⟨by decide, by decide⟩ (Or.inl rfl) rfl (Nat.le_of_ble_eq_true rfl) rfl rfl rfl (m_paid (c := e 1) (p := e 2) hR hW ho.1 ho.2) (fun r28 M28 z => ?_)
    obtain ⟨Iz, rfl, rfl, hz, hf⟩ := z
    show zV G (eX7_isSo (g_rmv 5)) (0, 0) 31 [(0, .ref 76), (1, .int (nI (5 * i)))] [] (mm Iz J t) _
    refine zV_goto (tgt := 77) dX7_isSo_31 rfl ?_
    exact zV_return dX7_isSo_77 rfl (⟨Iz, rfl, rfl, by rw [show ap1 e σ = _ from if_pos e10]; exact hz, hf⟩)
  · rw [if_neg e10] at ho
    refine zV_aload_n dX7_isSo_0 rfl 0 rfl rfl ?_
    refine zV_getr (q' := 84) 17 dX7_isSo_1 rfl fl_RX7_49 rfl (by decide) rfl rfl ?_
    refine zV_iload_n dX7_isSo_4 rfl 1 rfl rfl ?_
    refine zV_iald (x := (nI (e 0))) (5 * i) dX7_isSo_5 rfl rfl rfl (by omega) (by decide) (hi 0 (by decide)) ?_
    refine zV_bipush (v := (nI 10)) dX7_isSo_6 rfl rfl ?_
    refine zN_icmp_ne (tgt := 34) dX7_isSo_8 rfl rfl (by omega) (by omega) (fun _ => ?_) (fun z => absurd z e10)
    refine zV_aload_n dX7_isSo_34 rfl 0 rfl rfl ?_
    refine zV_aload_n dX7_isSo_35 rfl 0 rfl rfl ?_
    refine zV_getr (q' := 84) 17 dX7_isSo_36 rfl fl_RX7_49 rfl (by decide) rfl rfl ?_
    refine zV_iload_n dX7_isSo_39 rfl 1 rfl rfl ?_
    refine zV_iald (x := (nI (e 0))) (5 * i) dX7_isSo_40 rfl rfl rfl (by omega) (by decide) (hi 0 (by decide)) ?_
    refine zV_aload_n dX7_isSo_41 rfl 0 rfl rfl ?_
    refine zV_getr (q' := 84) 17 dX7_isSo_42 rfl fl_RX7_49 rfl (by decide) rfl rfl ?_
    refine zV_iload_n dX7_isSo_45 rfl 1 rfl rfl ?_
    refine zV_iconst (v := (nI 1)) dX7_isSo_46 rfl rfl ?_
    refine zA_iadd (z := (nI ((5 * i) + 1))) dX7_isSo_47 rfl  (nI_add _ _) ?_
    refine zV_iald (x := (nI (e 1))) ((5 * i) + 1) dX7_isSo_48 rfl rfl rfl (by omega) (by decide) (hi 1 (by decide)) ?_
    refine zV_aload_n dX7_isSo_49 rfl 0 rfl rfl ?_
    refine zV_getr (q' := 84) 17 dX7_isSo_50 rfl fl_RX7_49 rfl (by decide) rfl rfl ?_
    refine zV_iload_n dX7_isSo_53 rfl 1 rfl rfl ?_
    refine zV_iconst (v := (nI 2)) dX7_isSo_54 rfl rfl ?_
    refine zA_iadd (z := (nI ((5 * i) + 2))) dX7_isSo_55 rfl  (nI_add _ _) ?_
    refine zV_iald (x := (nI (e 2))) ((5 * i) + 2) dX7_isSo_56 rfl rfl rfl (by omega) (by decide) (hi 2 (by decide)) ?_
    refine zV_aload_n dX7_isSo_57 rfl 0 rfl rfl ?_
    refine zV_getr (q' := 84) 17 dX7_isSo_58 rfl fl_RX7_49 rfl (by decide) rfl rfl ?_
    refine zV_iload_n dX7_isSo_61 rfl 1 rfl rfl ?_
    refine zV_iconst (v := (nI 3)) dX7_isSo_62 rfl rfl ?_
    refine zA_iadd (z := (nI ((5 * i) + 3))) dX7_isSo_63 rfl  (nI_add _ _) ?_
    refine zV_iald (x := (nI (e 3))) ((5 * i) + 3) dX7_isSo_64 rfl rfl rfl (by omega) (by decide) (hi 3 (by decide)) ?_
    refine zV_aload_n dX7_isSo_65 rfl 0 rfl rfl ?_
    refine zV_getr (q' := 84) 17 dX7_isSo_66 rfl fl_RX7_49 rfl (by decide) rfl rfl ?_
    refine zV_iload_n dX7_isSo_69 rfl 1 rfl rfl ?_
    refine zV_iconst (v := (nI 4)) dX7_isSo_70 rfl rfl ?_
    refine zA_iadd (z := (nI ((5 * i) + 4))) dX7_isSo_71 rfl  (nI_add _ _) ?_
    refine zV_iald (x := (nI (e 4))) ((5 * i) + 4) dX7_isSo_72 rfl rfl rfl (by omega) (by decide) (hi 4 (by decide)) ?_
    refine zV_callV (E' := eX7_struck (g_rmv 1)) (av := [.int (nI (e 0)), .int (nI (e 1)), .int (nI (e 2)), .int (nI (e 3)), .int (nI (e 4))]) (st := []) (b := 76) dX7_isSo_73 rfl (k_RX7_92 _) rfl ⟨by decide, by decide⟩ ⟨by decide, by decide⟩ (Or.inl rfl) rfl (Nat.le_of_ble_eq_true rfl) rfl rfl rfl (m_struck (kd := e 0) (kg := e 1) (sp := e 2) (p := e 3) (l := e 4) hR hW ho) (fun r73 M73 z => ?_)
    obtain ⟨Iz, rfl, rfl, hz, hf⟩ := z
    show zV G (eX7_isSo (g_rmv 5)) (0, 0) 76 [(0, .ref 76), (1, .int (nI (5 * i)))] [.int (nI σ.1)] (mm Iz J t) _
    refine zV_istore_n (lv' := [(0, .ref 76), (1, .int (nI (5 * i))), (2, .int (nI σ.1))]) dX7_isSo_76 rfl rfl (by decide) rfl ?_
    exact zV_return dX7_isSo_77 rfl (⟨Iz, rfl, rfl, by rw [show ap1 e σ = _ from if_neg e10]; exact hz, hf⟩)

set_option maxRecDepth 100000 in
theorem q_text {G : mG} {I : Nat → Nat → Int32} {J : Nat → Nat → Int64} {t : Nat} {B : Nat} {S : aS} (hM : InvM I S) (hw : wfS B S) (hB : B + 242 < 1000000) {tp : Nat → Nat} {L : Nat} (htp : tp = S.2.2.2.1.2) (hLL : L = S.2.2.2.1.1) : zC G yX7_text (eX7_text (g_rmv 8)) [.ref 76] (mm I J t) (fun r M => PM I (op_text S) r M) := by
  refine zC_of (by decide +kernel) rfl (by decide) (Nat.le_of_ble_eq_true rfl) ?_
  have n10 := hw.1.1
  have hL : L ≤ 120 := by rw [hLL]; exact hw.2.2.2.1
  have h256 : ∀ j, tp j < 256 := by rw [htp]; exact hw.2.2.2.2.1
  have hrdI : rdM I tp L := ⟨by rw [hLL]; exact hM.2.2.2.1, hL, by rw [hLL, htp]; exact hM.2.2.2.2.1, h256⟩
  rw [show op_text S = op_text S from rfl]
  show zV G (eX7_text (g_rmv 8)) (0, 0) 0 [(0, .ref 76)] [] (mm I J t) _
  refine zV_aload_n dX7_text_0 rfl 0 rfl rfl ?_
  refine zV_iconst (v := (nI 0)) dX7_text_1 rfl rfl ?_
  refine zV_puti 12 dX7_text_2 rfl fl_RX7_230 rfl (by decide) rfl rfl rfl ?_
  refine zV_aload_n dX7_text_5 rfl 0 rfl rfl ?_
  refine zV_iconst (v := (nI 0)) dX7_text_6 rfl rfl ?_
  refine zV_puti 15 dX7_text_7 rfl fl_RX7_252 rfl (by decide) rfl rfl rfl ?_
  refine zV_aload_n dX7_text_10 rfl 0 rfl rfl ?_
  refine zV_iconst (v := (nI 0)) dX7_text_11 rfl rfl ?_
  refine zV_puti 18 dX7_text_12 rfl fl_RX7_263 rfl (by decide) rfl rfl rfl ?_
  refine zV_aload_n dX7_text_15 rfl 0 rfl rfl ?_
  refine zV_aload_n dX7_text_16 rfl 0 rfl rfl ?_
  refine zV_getr (q' := 77) 0 dX7_text_17 rfl fl_RX7_9 rfl (by decide) rfl rfl ?_
  refine zV_iconst (v := (nI 1)) dX7_text_20 rfl rfl ?_
  refine zV_iald (x := (nI S.1.1)) 1 dX7_text_21 rfl rfl rfl (by decide) (by decide) (by rw [up2_ni (by decide), up2_ni (by decide), up2_ni (by decide)]; exact hM.1.2.1) ?_
  refine zV_puti 19 dX7_text_22 rfl fl_RX7_278 rfl (by decide) rfl rfl rfl ?_
  refine zV_iconst (v := (nI 0)) dX7_text_25 rfl rfl ?_
  refine zV_istore_n (lv' := [(0, .ref 76), (1, .int (nI 0))]) dX7_text_26 rfl rfl (by decide) rfl ?_
  refine z_for (fun c => ∀ (I1 : Nat → Nat → Int32), ((∀ j, j < c → I1 85 j = nI (S.1.2.1 j 1)) ∧ ∀ i, i ≠ 85 → I1 i = (up2 (up2 (up2 (up2 I 76 12 (nI 0)) 76 15 (nI 0)) 76 18 (nI 0)) 76 19 (nI S.1.1)) i) → zV G (eX7_text (g_rmv 8)) (0, 0) 27 [(0, .ref 76), (1, .int (nI c))] [] (mm I1 J t) _) S.1.1 ?_ ?_ 0 (Nat.zero_le _) _ ⟨fun j h => absurd h (Nat.not_lt_zero _), fun _ _ => rfl⟩
  · intro I1 h1
    have hrd0 : rdM I1 tp L := hrdI.mv (by rw [h1.2 76 (by decide), up2_nk (by decide), up2_nk (by decide), up2_nk (by decide), up2_nk (by decide)]) (by rw [h1.2 82 (by decide)]; funext z; rw [up2_ni (by decide), up2_ni (by decide), up2_ni (by decide), up2_ni (by decide)])
    refine zV_iload_n dX7_text_27 rfl 1 rfl rfl ?_
    refine zV_aload_n dX7_text_28 rfl 0 rfl rfl ?_
    refine zV_getI (x := (nI S.1.1)) 19 dX7_text_29 rfl fl_RX7_278 rfl (by decide) rfl (by rw [h1.2 76 (by decide), up2_same]) ?_
    refine zN_icmp_ge (tgt := 53) dX7_text_32 rfl rfl (by omega) (by omega) (fun _ => ?_) (fun z => absurd z (by omega))
    refine zV_aload_n dX7_text_53 rfl 0 rfl rfl ?_
    refine zV_callV (E' := eX7_next (g_rmv 1)) (av := []) (st := []) (b := 76) dX7_text_54 rfl (k_RX7_256 _) rfl ⟨by decide, by decide⟩ ⟨by decide, by decide⟩ (Or.inl rfl) rfl (Nat.le_of_ble_eq_true rfl) rfl rfl rfl (m_next (tp := tp) (L := L) (b := 0) (w := 0) hrd0 (Nat.zero_le _) (by rw [h1.2 76 (by decide), up2_nk (by decide), up2_nk (by decide), up2_nk (by decide), up2_same]) (by rw [h1.2 76 (by decide), up2_nk (by decide), up2_nk (by decide), up2_same])) (fun r54 M54 z => ?_)
    obtain ⟨I54, rfl, rfl, hT54, hF54, hw54⟩ := z
    show zV G (eX7_text (g_rmv 8)) (0, 0) 57 [(0, .ref 76), (1, .int (nI S.1.1))] [] (mm I54 J t) _
    refine zV_aload_n dX7_text_57 rfl 0 rfl rfl ?_
    refine zV_callV (E' := eX7_readItem (g_rmv 7)) (av := []) (st := []) (b := 76) dX7_text_58 rfl (k_RX7_294 _) rfl ⟨by decide, by decide⟩ ⟨by decide, by decide⟩ (Or.inl rfl) rfl (Nat.le_of_ble_eq_true rfl) rfl rfl rfl (m_readItem (tp := tp) (L := L) (n := 0) (k := nxt tp L 0) (τ := S.1) (hF54.use hrd0) hT54 (nxt_all (tp := tp) (Nat.zero_le _)).1 hw54 (by rw [hF54.2 18 (by omega), h1.2 76 (by decide), up2_nk (by decide), up2_same]) (by decide) (by rw [hF54.2 19 (by omega), h1.2 76 (by decide), up2_same]) (fun c hc => by rw [hF54.1 85 (by decide)]; exact h1.1 c hc) hw.1) (fun r58 M58 z => ?_)
    obtain ⟨I58, rfl, rfl, hz58⟩ := z
    show zV G (eX7_text (g_rmv 8)) (0, 0) 61 [(0, .ref 76), (1, .int (nI S.1.1))] [] (mm I58 J t) _
    have hx0 : txS tp L B S.1 I I58 0 0 S.1 (fun _ _ => 0) (rItem tp L (nxt tp L 0) S.1) := ⟨rfl, fun i h => absurd h (Nat.not_lt_zero _), rfl, fun i h => absurd h (Nat.not_lt_zero _), (fun i h => by rw [Nat.le_zero.mp h]; exact hw.1), fun i h => absurd h (Nat.not_lt_zero _), hz58.1, hz58.2.1, hz58.2.2.1, fun i a1 a2 a3 => by rw [hz58.2.2.2.1 i a1 a2 a3, hF54.1 i a1, h1.2 i a3]; funext z; rw [up2_ni a1, up2_ni a1, up2_ni a1, up2_ni a1], fun j hj => by rw [hz58.2.2.2.2.2 j hj, hF54.2 j (by omega), h1.2 76 (by decide), up2_nk (by omega), up2_nk (by omega), up2_nk (by omega), up2_nk (by omega)]⟩
    refine zV_keep (lv' := [(0, .ref 76)]) [0] rfl ?_
    refine z_for (fun c => ∀ (I1 : Nat → Nat → Int32) (b : Nat) (τ : aL) (E : Nat → Nat → Nat), txS tp L B S.1 I I1 c b τ E (rItem tp L (nxt tp L b) τ) → zV G (eX7_text (g_rmv 8)) (0, 0) 61 [(0, .ref 76)] [] (mm I1 J t) _) 120 ?_ ?_ 0 (Nat.zero_le _) I58 0 S.1 (fun _ _ => 0) hx0
    · intro I1 b τ E hx
      have hbL := rTx_b _ _ _ hx.1
      omega
    · intro c hc ih I1 b τ E hx
      have hbL := rTx_b _ _ _ hx.1
      have hok := (nxt_all (tp := tp) hbL.2).1
      have hib := (rItem_b (tp := tp) (σ := τ) hok).1
      have hi1 := hib.1
      have hi2 := hib.2.1
      have hi3 := hib.2.2.1
      have hrd : rdM I1 tp L := hrdI.mv (hx.2.2.2.2.2.2.2.2.2.2 10 (by decide)) (hx.2.2.2.2.2.2.2.2.2.1 82 (by decide) (by decide) (by decide))
      have hgo := rItem_g (tp := tp) (L := L) (σ := τ) (nxt_g (b := b))
      have hwc : wfL (B + 2 * c) τ := by have w := hx.2.2.2.2.1 c (Nat.le_refl _); rw [hx.2.2.1] at w; exact w
      have hwR : wfL (B + 2 * (c + 1)) (rItem tp L (nxt tp L b) τ).2.2 := by
        have w := rItem_wf (tp := tp) (L := L) (B := B + 2 * c) (k := nxt tp L b) (σ := τ) hwc (by omega)
        rw [show B + 2 * (c + 1) = B + 2 * c + 2 by omega]
        exact w
      by_cases hr1 : (rItem tp L (nxt tp L b) τ).1 = true
      · obtain ⟨e, he⟩ := hx.2.2.2.2.2.2.2.2.1 hr1
        refine zV_aload_n dX7_text_61 rfl 0 rfl rfl ?_
        refine zV_getI (x := (nI 0)) 15 dX7_text_62 rfl fl_RX7_252 rfl (by decide) rfl (hx.2.2.2.2.2.2.2.1.trans (by rw [if_pos hr1]; try rfl)) ?_
        refine zN_if_ne (tgt := 102) dX7_text_65 rfl rfl (by decide) (fun z => absurd z (by decide)) (fun _ => ?_)
        refine zV_aload_n dX7_text_68 rfl 0 rfl rfl ?_
        refine zV_getI (x := (nI (min (rItem tp L (nxt tp L b) τ).2.1.1 3))) 13 dX7_text_69 rfl fl_RX7_242 rfl (by decide) rfl hx.2.2.2.2.2.2.1.2.2.1 ?_
        refine zV_iconst (v := (nI 3)) dX7_text_72 rfl rfl ?_
        refine zN_icmp_ne (tgt := 102) dX7_text_73 rfl rfl (by omega) (by omega) (fun h73 => ?_) (fun h73 => ?_)
        · skip
          refine zV_aload_n dX7_text_102 rfl 0 rfl rfl ?_
          refine zV_aload_n dX7_text_103 rfl 0 rfl rfl ?_
          refine zV_getI (x := (nI (min (rItem tp L (nxt tp L b) τ).2.1.1 3))) 13 dX7_text_104 rfl fl_RX7_242 rfl (by decide) rfl hx.2.2.2.2.2.2.1.2.2.1 ?_
          refine zN_if_ne (tgt := 114) dX7_text_107 rfl rfl (by omega) (fun h107 => ?_) (fun h107 => ?_)
          · refine zV_iconst (v := (nI 0)) dX7_text_114 rfl rfl ?_
            refine zV_callV (E' := eX7_must (g_rmv 2)) (av := [.int (nI 0)]) (st := []) (b := 76) dX7_text_115 rfl (k_RX7_259 _) rfl ⟨by decide, by decide⟩ ⟨by decide, by decide⟩ (Or.inl rfl) rfl (Nat.le_of_ble_eq_true rfl) rfl rfl rfl (m_must0 (hx.2.2.2.2.2.2.2.1.trans (by rw [if_pos hr1]))) (fun r115 M115 z => ?_)
            obtain ⟨rfl, rfl⟩ := z
            show zV G (eX7_text (g_rmv 8)) (0, 0) 118 [(0, .ref 76)] [] (mm (up2 I1 76 15 (nI 1)) J t) _
            refine zV_aload_n dX7_text_118 rfl 0 rfl rfl ?_
            refine zV_iconst (v := (nI 0)) dX7_text_119 rfl rfl ?_
            refine zV_puti 10 dX7_text_120 rfl fl_RX7_227 rfl (by decide) rfl rfl rfl ?_
            refine zV_aload_n dX7_text_123 rfl 0 rfl rfl ?_
            refine zV_getI (x := (nI 1)) 15 dX7_text_124 rfl fl_RX7_252 rfl (by decide) rfl (by rw [up2_nk (by decide), up2_same]) ?_
            refine zN_if_eq (tgt := 137) dX7_text_127 rfl rfl (by decide) (fun z => absurd z (by decide)) (fun _ => ?_)
            refine zV_iconst (v := (-1)) dX7_text_130 rfl rfl ?_
            refine zV_aload_n dX7_text_131 rfl 0 rfl rfl ?_
            refine zV_getI (x := (nI ((rItem tp L (nxt tp L b) τ).2.1.2.1))) 11 dX7_text_132 rfl fl_RX7_233 rfl (by decide) rfl (by rw [up2_nk (by decide), up2_nk (by decide)]; exact hx.2.2.2.2.2.2.1.1) ?_
            refine zA_isub (z := ((-1) - (nI ((rItem tp L (nxt tp L b) τ).2.1.2.1)))) dX7_text_135 rfl  (rfl) ?_
            exact zV_ireturn dX7_text_136 rfl rfl (PM.txt (I1 := (up2 (up2 I1 76 15 (nI 1)) 76 10 (nI 0))) hM (opt_n htp hLL (rAns_n hc hx.2.1 hx.1 (fun z => by have := z.2; omega))) (hM.1.mv (show (up2 (up2 I1 76 15 (nI 1)) 76 10 (nI 0)) 77 = I 77 from by rw [← hx.2.2.2.2.2.2.2.2.2.1 77 (by decide) (by decide) (by decide)]; funext z; rw [up2_ni (by decide), up2_ni (by decide)])) (fun i h76 h77 h84 h85 => by rw [← hx.2.2.2.2.2.2.2.2.2.1 i h76 h84 h85]; funext z; rw [up2_ni h76, up2_ni h76]) (by rw [up2_nk (by decide), up2_nk (by decide)]; exact hx.2.2.2.2.2.2.2.2.2.2 3 (by decide)) (up2_same _ _ _ _))
          · refine zV_iconst (v := (nI 1)) dX7_text_110 rfl rfl ?_
            refine zV_goto (tgt := 115) dX7_text_111 rfl ?_
            refine zV_callV (E' := eX7_must (g_rmv 2)) (av := [.int (nI 1)]) (st := []) (b := 76) dX7_text_115 rfl (k_RX7_259 _) rfl ⟨by decide, by decide⟩ ⟨by decide, by decide⟩ (Or.inl rfl) rfl (Nat.le_of_ble_eq_true rfl) rfl rfl rfl (m_must1 (tp := tp) (L := L) hrd hx.2.2.2.2.2.2.1 hib (hx.2.2.2.2.2.2.2.1.trans (by rw [if_pos hr1]))) (fun r115 M115 z => ?_)
            obtain ⟨I115, rfl, rfl, hT115, hF115, hw115⟩ := z
            show zV G (eX7_text (g_rmv 8)) (0, 0) 118 [(0, .ref 76)] [] (mm I115 J t) _
            refine zV_aload_n dX7_text_118 rfl 0 rfl rfl ?_
            refine zV_iconst (v := (nI 0)) dX7_text_119 rfl rfl ?_
            refine zV_puti 10 dX7_text_120 rfl fl_RX7_227 rfl (by decide) rfl rfl rfl ?_
            refine zV_aload_n dX7_text_123 rfl 0 rfl rfl ?_
            refine zV_getI (x := (nI 0)) 15 dX7_text_124 rfl fl_RX7_252 rfl (by decide) rfl (by rw [up2_nk (by decide)]; exact hw115) ?_
            refine zN_if_eq (tgt := 137) dX7_text_127 rfl rfl (by decide) (fun _ => ?_) (fun z => absurd z (by decide))
            refine zV_iconst (v := (nI 0)) dX7_text_137 rfl rfl ?_
            refine zV_istore_n (lv' := [(0, .ref 76), (1, .int (nI 0))]) dX7_text_138 rfl rfl (by decide) rfl ?_
            have hE : apn (upN E c e) S.1 (c + 1) = (rItem tp L (nxt tp L b) τ).2.2 := by
              show ap1 (upN E c e c) (apn (upN E c e) S.1 c) = _
              rw [show upN E c e c = e from if_pos rfl, apn_cong (E := upN E c e) (E' := E) c (fun j hj => if_neg (by omega)), hx.2.2.1]
              exact he.1
            have hap : ∀ i, i ≤ c → apn (upN E c e) S.1 i = apn E S.1 i := fun i hi => apn_cong i (fun j hj => if_neg (by omega))
            have hwE : ∀ i, i ≤ c → wfL (B + 2 * i) (apn (upN E c e) S.1 i) := fun i hi => by rw [hap i hi]; exact hx.2.2.2.2.1 i hi
            have hokE : ∀ i, i ≤ c → okE (upN E c e i) (apn (upN E c e) S.1 i) := fun i hi => by
              rw [hap i hi]
              by_cases ec : i = c
              · rw [ec, show upN E c e c = e from if_pos rfl, hx.2.2.1]; exact he.2.1
              · rw [show upN E c e i = E i from if_neg ec]; exact hx.2.2.2.1 i (by omega)
            have hitE : ∀ i, i ≤ c → ∀ f, f < 5 → I1 84 (5 * i + f) = nI (upN E c e i f) := fun i hi f hf => by
              by_cases ec : i = c
              · rw [ec, show upN E c e c = e from if_pos rfl]; exact he.2.2.1 f hf
              · rw [show upN E c e i = E i from if_neg ec]; exact hx.2.2.2.2.2.1 i (by omega) f hf
            refine z_for (fun i => ∀ (I2 : Nat → Nat → Int32), (absR I2 77 (apn (upN E c e) S.1 i) ∧ frM (up2 I115 76 10 (nI 0)) I2) → zV G (eX7_text (g_rmv 8)) (0, 0) 139 [(0, .ref 76), (1, .int (nI i))] [] (mm I2 J t) _) (c + 1) ?_ ?_ 0 (Nat.zero_le _) (up2 I115 76 10 (nI 0)) ⟨hM.1.mv ((show (up2 I115 76 10 (nI 0)) 77 = I115 77 from by funext z; exact up2_ni (by decide)).trans ((hF115.1 77 (by decide)).trans (hx.2.2.2.2.2.2.2.2.2.1 77 (by decide) (by decide) (by decide)))), frM.rf⟩
            · intro I2 h2
              refine zV_iload_n dX7_text_139 rfl 1 rfl rfl ?_
              refine zV_aload_n dX7_text_140 rfl 0 rfl rfl ?_
              refine zV_getI (x := (nI (c + 1))) 18 dX7_text_141 rfl fl_RX7_263 rfl (by decide) rfl (by rw [h2.2 76 (by decide), up2_nk (by decide), hF115.2 18 (by omega)]; exact he.2.2.2.1) ?_
              refine zN_icmp_ge (tgt := 160) dX7_text_144 rfl rfl (by omega) (by omega) (fun _ => ?_) (fun z => absurd z (by omega))
              refine zV_aload_n dX7_text_160 rfl 0 rfl rfl ?_
              refine zV_getI (x := (nI (c + 1))) 18 dX7_text_161 rfl fl_RX7_263 rfl (by decide) rfl (by rw [h2.2 76 (by decide), up2_nk (by decide), hF115.2 18 (by omega)]; exact he.2.2.2.1) ?_
              exact zV_ireturn dX7_text_164 rfl rfl (PM.txt hM (opt_y htp hLL (rAns_y hc hx.2.1 hx.1 hr1 (by omega))) (by rw [← hE]; exact h2.1) (fun i h76 h77 h84 h85 => by rw [h2.2 i h77, ← hx.2.2.2.2.2.2.2.2.2.1 i h76 h84 h85, ← hF115.1 i h76]; funext z; exact up2_ni h76) (by rw [h2.2 76 (by decide), up2_nk (by decide), hF115.2 3 (by omega)]; exact hx.2.2.2.2.2.2.2.2.2.2 3 (by decide)) (by rw [h2.2 76 (by decide), up2_same]))
            · intro i hi ih2 I2 h2
              refine zV_iload_n dX7_text_139 rfl 1 rfl rfl ?_
              refine zV_aload_n dX7_text_140 rfl 0 rfl rfl ?_
              refine zV_getI (x := (nI (c + 1))) 18 dX7_text_141 rfl fl_RX7_263 rfl (by decide) rfl (by rw [h2.2 76 (by decide), up2_nk (by decide), hF115.2 18 (by omega)]; exact he.2.2.2.1) ?_
              refine zN_icmp_ge (tgt := 160) dX7_text_144 rfl rfl (by omega) (by omega) (fun z => absurd z (by omega)) (fun _ => ?_)
              refine zV_aload_n dX7_text_147 rfl 0 rfl rfl ?_
              refine zV_iconst (v := (nI 5)) dX7_text_148 rfl rfl ?_
              refine zV_iload_n dX7_text_149 rfl 1 rfl rfl ?_
              refine zA_imul (z := (nI (5 * i))) dX7_text_150 rfl  (pk_mul _ _) ?_
              refine zV_callV (E' := eX7_isSo (g_rmv 5)) (av := [.int (nI (5 * i))]) (st := []) (b := 76) dX7_text_151 rfl (k_RX7_297 _) rfl ⟨by decide, by decide⟩ ⟨by decide, by decide⟩ (Or.inl rfl) rfl (Nat.le_of_ble_eq_true rfl) rfl rfl rfl (m_isSo (B := B + 2 * i) (i := i) (e := upN E c e i) h2.1 (hwE i (by omega)) (by omega) (fun f hf => by rw [h2.2 84 (by decide), up2_ni (by decide), hF115.1 84 (by decide)]; exact hitE i (by omega) f hf) (hokE i (by omega))) (fun r151 M151 z => ?_)
              obtain ⟨Iq, rfl, rfl, hq1, hq2⟩ := z
              show zV G (eX7_text (g_rmv 8)) (0, 0) 154 [(0, .ref 76), (1, .int (nI i))] [] (mm Iq J t) _
              refine zV_iinc (y := (nI (i + 1))) (lv' := [(0, .ref 76), (1, .int (nI (i + 1)))]) dX7_text_154 rfl 1 rfl (nI_1 _) (by decide) rfl ?_
              refine zV_goto (tgt := 139) dX7_text_157 rfl ?_
              exact ih2 Iq ⟨hq1, fun j hj => (hq2 j hj).trans (h2.2 j hj)⟩
        · have hgl := hgo (by omega)
          refine zV_aload_n dX7_text_76 rfl 0 rfl rfl ?_
          refine zV_getr (q' := 82) 9 dX7_text_77 rfl fl_RX7_26 rfl (by decide) rfl rfl ?_
          refine zV_aload_n dX7_text_80 rfl 0 rfl rfl ?_
          refine zV_getI (x := (nI ((rItem tp L (nxt tp L b) τ).2.1.2.1))) 11 dX7_text_81 rfl fl_RX7_233 rfl (by decide) rfl hx.2.2.2.2.2.2.1.1 ?_
          refine zV_iald (x := (nI (tp (rItem tp L (nxt tp L b) τ).2.1.2.1))) ((rItem tp L (nxt tp L b) τ).2.1.2.1) dX7_text_84 rfl rfl rfl (by omega) (by decide) (hrd.2.2.1 (rItem tp L (nxt tp L b) τ).2.1.2.1 hgl.1) ?_
          refine zV_bipush (v := (nI 59)) dX7_text_85 rfl rfl ?_
          refine zN_icmp_ne (tgt := 102) dX7_text_87 rfl rfl (Nat.lt_trans (h256 _) (by decide)) (by decide) (fun h87 => ?_) (fun h87 => ?_)
          · have hs4 : (rItem tp L (nxt tp L b) τ).2.1.1 ≠ 3 := fun z => h87 (hgl.2.mp z)
            refine zV_aload_n dX7_text_102 rfl 0 rfl rfl ?_
            refine zV_aload_n dX7_text_103 rfl 0 rfl rfl ?_
            refine zV_getI (x := (nI (min (rItem tp L (nxt tp L b) τ).2.1.1 3))) 13 dX7_text_104 rfl fl_RX7_242 rfl (by decide) rfl hx.2.2.2.2.2.2.1.2.2.1 ?_
            refine zN_if_ne (tgt := 114) dX7_text_107 rfl rfl (by omega) (fun h107 => ?_) (fun h107 => ?_)
            · refine zV_iconst (v := (nI 0)) dX7_text_114 rfl rfl ?_
              refine zV_callV (E' := eX7_must (g_rmv 2)) (av := [.int (nI 0)]) (st := []) (b := 76) dX7_text_115 rfl (k_RX7_259 _) rfl ⟨by decide, by decide⟩ ⟨by decide, by decide⟩ (Or.inl rfl) rfl (Nat.le_of_ble_eq_true rfl) rfl rfl rfl (m_must0 (hx.2.2.2.2.2.2.2.1.trans (by rw [if_pos hr1]))) (fun r115 M115 z => ?_)
              obtain ⟨rfl, rfl⟩ := z
              show zV G (eX7_text (g_rmv 8)) (0, 0) 118 [(0, .ref 76)] [] (mm (up2 I1 76 15 (nI 1)) J t) _
              refine zV_aload_n dX7_text_118 rfl 0 rfl rfl ?_
              refine zV_iconst (v := (nI 0)) dX7_text_119 rfl rfl ?_
              refine zV_puti 10 dX7_text_120 rfl fl_RX7_227 rfl (by decide) rfl rfl rfl ?_
              refine zV_aload_n dX7_text_123 rfl 0 rfl rfl ?_
              refine zV_getI (x := (nI 1)) 15 dX7_text_124 rfl fl_RX7_252 rfl (by decide) rfl (by rw [up2_nk (by decide), up2_same]) ?_
              refine zN_if_eq (tgt := 137) dX7_text_127 rfl rfl (by decide) (fun z => absurd z (by decide)) (fun _ => ?_)
              refine zV_iconst (v := (-1)) dX7_text_130 rfl rfl ?_
              refine zV_aload_n dX7_text_131 rfl 0 rfl rfl ?_
              refine zV_getI (x := (nI ((rItem tp L (nxt tp L b) τ).2.1.2.1))) 11 dX7_text_132 rfl fl_RX7_233 rfl (by decide) rfl (by rw [up2_nk (by decide), up2_nk (by decide)]; exact hx.2.2.2.2.2.2.1.1) ?_
              refine zA_isub (z := ((-1) - (nI ((rItem tp L (nxt tp L b) τ).2.1.2.1)))) dX7_text_135 rfl  (rfl) ?_
              exact zV_ireturn dX7_text_136 rfl rfl (PM.txt (I1 := (up2 (up2 I1 76 15 (nI 1)) 76 10 (nI 0))) hM (opt_n htp hLL (rAns_n hc hx.2.1 hx.1 (fun z => by have := z.2; omega))) (hM.1.mv (show (up2 (up2 I1 76 15 (nI 1)) 76 10 (nI 0)) 77 = I 77 from by rw [← hx.2.2.2.2.2.2.2.2.2.1 77 (by decide) (by decide) (by decide)]; funext z; rw [up2_ni (by decide), up2_ni (by decide)])) (fun i h76 h77 h84 h85 => by rw [← hx.2.2.2.2.2.2.2.2.2.1 i h76 h84 h85]; funext z; rw [up2_ni h76, up2_ni h76]) (by rw [up2_nk (by decide), up2_nk (by decide)]; exact hx.2.2.2.2.2.2.2.2.2.2 3 (by decide)) (up2_same _ _ _ _))
            · refine zV_iconst (v := (nI 1)) dX7_text_110 rfl rfl ?_
              refine zV_goto (tgt := 115) dX7_text_111 rfl ?_
              refine zV_callV (E' := eX7_must (g_rmv 2)) (av := [.int (nI 1)]) (st := []) (b := 76) dX7_text_115 rfl (k_RX7_259 _) rfl ⟨by decide, by decide⟩ ⟨by decide, by decide⟩ (Or.inl rfl) rfl (Nat.le_of_ble_eq_true rfl) rfl rfl rfl (m_must1 (tp := tp) (L := L) hrd hx.2.2.2.2.2.2.1 hib (hx.2.2.2.2.2.2.2.1.trans (by rw [if_pos hr1]))) (fun r115 M115 z => ?_)
              obtain ⟨I115, rfl, rfl, hT115, hF115, hw115⟩ := z
              show zV G (eX7_text (g_rmv 8)) (0, 0) 118 [(0, .ref 76)] [] (mm I115 J t) _
              refine zV_aload_n dX7_text_118 rfl 0 rfl rfl ?_
              refine zV_iconst (v := (nI 0)) dX7_text_119 rfl rfl ?_
              refine zV_puti 10 dX7_text_120 rfl fl_RX7_227 rfl (by decide) rfl rfl rfl ?_
              refine zV_aload_n dX7_text_123 rfl 0 rfl rfl ?_
              refine zV_getI (x := (nI 0)) 15 dX7_text_124 rfl fl_RX7_252 rfl (by decide) rfl (by rw [up2_nk (by decide)]; exact hw115) ?_
              refine zN_if_eq (tgt := 137) dX7_text_127 rfl rfl (by decide) (fun _ => ?_) (fun z => absurd z (by decide))
              refine zV_iconst (v := (nI 0)) dX7_text_137 rfl rfl ?_
              refine zV_istore_n (lv' := [(0, .ref 76), (1, .int (nI 0))]) dX7_text_138 rfl rfl (by decide) rfl ?_
              have hE : apn (upN E c e) S.1 (c + 1) = (rItem tp L (nxt tp L b) τ).2.2 := by
                show ap1 (upN E c e c) (apn (upN E c e) S.1 c) = _
                rw [show upN E c e c = e from if_pos rfl, apn_cong (E := upN E c e) (E' := E) c (fun j hj => if_neg (by omega)), hx.2.2.1]
                exact he.1
              have hap : ∀ i, i ≤ c → apn (upN E c e) S.1 i = apn E S.1 i := fun i hi => apn_cong i (fun j hj => if_neg (by omega))
              have hwE : ∀ i, i ≤ c → wfL (B + 2 * i) (apn (upN E c e) S.1 i) := fun i hi => by rw [hap i hi]; exact hx.2.2.2.2.1 i hi
              have hokE : ∀ i, i ≤ c → okE (upN E c e i) (apn (upN E c e) S.1 i) := fun i hi => by
                rw [hap i hi]
                by_cases ec : i = c
                · rw [ec, show upN E c e c = e from if_pos rfl, hx.2.2.1]; exact he.2.1
                · rw [show upN E c e i = E i from if_neg ec]; exact hx.2.2.2.1 i (by omega)
              have hitE : ∀ i, i ≤ c → ∀ f, f < 5 → I1 84 (5 * i + f) = nI (upN E c e i f) := fun i hi f hf => by
                by_cases ec : i = c
                · rw [ec, show upN E c e c = e from if_pos rfl]; exact he.2.2.1 f hf
                · rw [show upN E c e i = E i from if_neg ec]; exact hx.2.2.2.2.2.1 i (by omega) f hf
              refine z_for (fun i => ∀ (I2 : Nat → Nat → Int32), (absR I2 77 (apn (upN E c e) S.1 i) ∧ frM (up2 I115 76 10 (nI 0)) I2) → zV G (eX7_text (g_rmv 8)) (0, 0) 139 [(0, .ref 76), (1, .int (nI i))] [] (mm I2 J t) _) (c + 1) ?_ ?_ 0 (Nat.zero_le _) (up2 I115 76 10 (nI 0)) ⟨hM.1.mv ((show (up2 I115 76 10 (nI 0)) 77 = I115 77 from by funext z; exact up2_ni (by decide)).trans ((hF115.1 77 (by decide)).trans (hx.2.2.2.2.2.2.2.2.2.1 77 (by decide) (by decide) (by decide)))), frM.rf⟩
              · intro I2 h2
                refine zV_iload_n dX7_text_139 rfl 1 rfl rfl ?_
                refine zV_aload_n dX7_text_140 rfl 0 rfl rfl ?_
                refine zV_getI (x := (nI (c + 1))) 18 dX7_text_141 rfl fl_RX7_263 rfl (by decide) rfl (by rw [h2.2 76 (by decide), up2_nk (by decide), hF115.2 18 (by omega)]; exact he.2.2.2.1) ?_
                refine zN_icmp_ge (tgt := 160) dX7_text_144 rfl rfl (by omega) (by omega) (fun _ => ?_) (fun z => absurd z (by omega))
                refine zV_aload_n dX7_text_160 rfl 0 rfl rfl ?_
                refine zV_getI (x := (nI (c + 1))) 18 dX7_text_161 rfl fl_RX7_263 rfl (by decide) rfl (by rw [h2.2 76 (by decide), up2_nk (by decide), hF115.2 18 (by omega)]; exact he.2.2.2.1) ?_
                exact zV_ireturn dX7_text_164 rfl rfl (PM.txt hM (opt_y htp hLL (rAns_y hc hx.2.1 hx.1 hr1 (by omega))) (by rw [← hE]; exact h2.1) (fun i h76 h77 h84 h85 => by rw [h2.2 i h77, ← hx.2.2.2.2.2.2.2.2.2.1 i h76 h84 h85, ← hF115.1 i h76]; funext z; exact up2_ni h76) (by rw [h2.2 76 (by decide), up2_nk (by decide), hF115.2 3 (by omega)]; exact hx.2.2.2.2.2.2.2.2.2.2 3 (by decide)) (by rw [h2.2 76 (by decide), up2_same]))
              · intro i hi ih2 I2 h2
                refine zV_iload_n dX7_text_139 rfl 1 rfl rfl ?_
                refine zV_aload_n dX7_text_140 rfl 0 rfl rfl ?_
                refine zV_getI (x := (nI (c + 1))) 18 dX7_text_141 rfl fl_RX7_263 rfl (by decide) rfl (by rw [h2.2 76 (by decide), up2_nk (by decide), hF115.2 18 (by omega)]; exact he.2.2.2.1) ?_
                refine zN_icmp_ge (tgt := 160) dX7_text_144 rfl rfl (by omega) (by omega) (fun z => absurd z (by omega)) (fun _ => ?_)
                refine zV_aload_n dX7_text_147 rfl 0 rfl rfl ?_
                refine zV_iconst (v := (nI 5)) dX7_text_148 rfl rfl ?_
                refine zV_iload_n dX7_text_149 rfl 1 rfl rfl ?_
                refine zA_imul (z := (nI (5 * i))) dX7_text_150 rfl  (pk_mul _ _) ?_
                refine zV_callV (E' := eX7_isSo (g_rmv 5)) (av := [.int (nI (5 * i))]) (st := []) (b := 76) dX7_text_151 rfl (k_RX7_297 _) rfl ⟨by decide, by decide⟩ ⟨by decide, by decide⟩ (Or.inl rfl) rfl (Nat.le_of_ble_eq_true rfl) rfl rfl rfl (m_isSo (B := B + 2 * i) (i := i) (e := upN E c e i) h2.1 (hwE i (by omega)) (by omega) (fun f hf => by rw [h2.2 84 (by decide), up2_ni (by decide), hF115.1 84 (by decide)]; exact hitE i (by omega) f hf) (hokE i (by omega))) (fun r151 M151 z => ?_)
                obtain ⟨Iq, rfl, rfl, hq1, hq2⟩ := z
                show zV G (eX7_text (g_rmv 8)) (0, 0) 154 [(0, .ref 76), (1, .int (nI i))] [] (mm Iq J t) _
                refine zV_iinc (y := (nI (i + 1))) (lv' := [(0, .ref 76), (1, .int (nI (i + 1)))]) dX7_text_154 rfl 1 rfl (nI_1 _) (by decide) rfl ?_
                refine zV_goto (tgt := 139) dX7_text_157 rfl ?_
                exact ih2 Iq ⟨hq1, fun j hj => (hq2 j hj).trans (h2.2 j hj)⟩
          · have hs3 : (rItem tp L (nxt tp L b) τ).2.1.1 = 3 := hgl.2.mpr h87
            refine zV_aload_n dX7_text_90 rfl 0 rfl rfl ?_
            refine zV_iconst (v := (nI 1)) dX7_text_91 rfl rfl ?_
            refine zV_callV (E' := eX7_must (g_rmv 2)) (av := [.int (nI 1)]) (st := []) (b := 76) dX7_text_92 rfl (k_RX7_259 _) rfl ⟨by decide, by decide⟩ ⟨by decide, by decide⟩ (Or.inl rfl) rfl (Nat.le_of_ble_eq_true rfl) rfl rfl rfl (m_must1 (tp := tp) (L := L) hrd hx.2.2.2.2.2.2.1 hib (hx.2.2.2.2.2.2.2.1.trans (by rw [if_pos hr1]))) (fun r92 M92 z => ?_)
            obtain ⟨I92, rfl, rfl, hT92, hF92, hw92⟩ := z
            show zV G (eX7_text (g_rmv 8)) (0, 0) 95 [(0, .ref 76)] [] (mm I92 J t) _
            refine zV_aload_n dX7_text_95 rfl 0 rfl rfl ?_
            refine zV_callV (E' := eX7_readItem (g_rmv 7)) (av := []) (st := []) (b := 76) dX7_text_96 rfl (k_RX7_294 _) rfl ⟨by decide, by decide⟩ ⟨by decide, by decide⟩ (Or.inl rfl) rfl (Nat.le_of_ble_eq_true rfl) rfl rfl rfl (m_readItem (tp := tp) (L := L) (n := c + 1) (k := nxt tp L (rItem tp L (nxt tp L b) τ).2.1.2.2.1) (τ := (rItem tp L (nxt tp L b) τ).2.2) (hF92.use hrd) hT92 (nxt_all (tp := tp) hib.2.2.1).1 hw92 ((hF92.2 18 (by omega)).trans he.2.2.2.1) (by omega) ((hF92.2 19 (by omega)).trans he.2.2.2.2.1) (fun c hc => by rw [hF92.1 85 (by decide)]; exact he.2.2.2.2.2 c hc) hwR) (fun r96 M96 z => ?_)
            obtain ⟨I96, rfl, rfl, hz96⟩ := z
            show zV G (eX7_text (g_rmv 8)) (0, 0) 99 [(0, .ref 76)] [] (mm I96 J t) _
            refine zV_goto (tgt := 61) dX7_text_99 rfl ?_
            exact ih I96 (rItem tp L (nxt tp L b) τ).2.1.2.2.1 (rItem tp L (nxt tp L b) τ).2.2 (upN E c e) (txS_go hx (rTx_y hx.1 hr1 hs3) he.1 he.2.1 he.2.2.1 hwR hF92 hz96)
      · skip
        refine zV_aload_n dX7_text_61 rfl 0 rfl rfl ?_
        refine zV_getI (x := (nI 1)) 15 dX7_text_62 rfl fl_RX7_252 rfl (by decide) rfl (hx.2.2.2.2.2.2.2.1.trans (by rw [if_neg hr1]; try rfl)) ?_
        refine zN_if_ne (tgt := 102) dX7_text_65 rfl rfl (by decide) (fun _ => ?_) (fun z => absurd z (by decide))
        refine zV_aload_n dX7_text_102 rfl 0 rfl rfl ?_
        refine zV_aload_n dX7_text_103 rfl 0 rfl rfl ?_
        refine zV_getI (x := (nI (min (rItem tp L (nxt tp L b) τ).2.1.1 3))) 13 dX7_text_104 rfl fl_RX7_242 rfl (by decide) rfl hx.2.2.2.2.2.2.1.2.2.1 ?_
        refine zN_if_ne (tgt := 114) dX7_text_107 rfl rfl (by omega) (fun h107 => ?_) (fun h107 => ?_)
        · refine zV_iconst (v := (nI 0)) dX7_text_114 rfl rfl ?_
          refine zV_callV (E' := eX7_must (g_rmv 2)) (av := [.int (nI 0)]) (st := []) (b := 76) dX7_text_115 rfl (k_RX7_259 _) rfl ⟨by decide, by decide⟩ ⟨by decide, by decide⟩ (Or.inl rfl) rfl (Nat.le_of_ble_eq_true rfl) rfl rfl rfl (m_mustw (x := (nI 0)) (hx.2.2.2.2.2.2.2.1.trans (by rw [if_neg hr1]))) (fun r115 M115 z => ?_)
          obtain ⟨rfl, rfl⟩ := z
          show zV G (eX7_text (g_rmv 8)) (0, 0) 118 [(0, .ref 76)] [] (mm (up2 I1 76 15 (nI 1)) J t) _
          refine zV_aload_n dX7_text_118 rfl 0 rfl rfl ?_
          refine zV_iconst (v := (nI 0)) dX7_text_119 rfl rfl ?_
          refine zV_puti 10 dX7_text_120 rfl fl_RX7_227 rfl (by decide) rfl rfl rfl ?_
          refine zV_aload_n dX7_text_123 rfl 0 rfl rfl ?_
          refine zV_getI (x := (nI 1)) 15 dX7_text_124 rfl fl_RX7_252 rfl (by decide) rfl (by rw [up2_nk (by decide), up2_same]) ?_
          refine zN_if_eq (tgt := 137) dX7_text_127 rfl rfl (by decide) (fun z => absurd z (by decide)) (fun _ => ?_)
          refine zV_iconst (v := (-1)) dX7_text_130 rfl rfl ?_
          refine zV_aload_n dX7_text_131 rfl 0 rfl rfl ?_
          refine zV_getI (x := (nI ((rItem tp L (nxt tp L b) τ).2.1.2.1))) 11 dX7_text_132 rfl fl_RX7_233 rfl (by decide) rfl (by rw [up2_nk (by decide), up2_nk (by decide)]; exact hx.2.2.2.2.2.2.1.1) ?_
          refine zA_isub (z := ((-1) - (nI ((rItem tp L (nxt tp L b) τ).2.1.2.1)))) dX7_text_135 rfl  (rfl) ?_
          exact zV_ireturn dX7_text_136 rfl rfl (PM.txt (I1 := (up2 (up2 I1 76 15 (nI 1)) 76 10 (nI 0))) hM (opt_n htp hLL (rAns_n hc hx.2.1 hx.1 (fun z => hr1 z.1))) (hM.1.mv (show (up2 (up2 I1 76 15 (nI 1)) 76 10 (nI 0)) 77 = I 77 from by rw [← hx.2.2.2.2.2.2.2.2.2.1 77 (by decide) (by decide) (by decide)]; funext z; rw [up2_ni (by decide), up2_ni (by decide)])) (fun i h76 h77 h84 h85 => by rw [← hx.2.2.2.2.2.2.2.2.2.1 i h76 h84 h85]; funext z; rw [up2_ni h76, up2_ni h76]) (by rw [up2_nk (by decide), up2_nk (by decide)]; exact hx.2.2.2.2.2.2.2.2.2.2 3 (by decide)) (up2_same _ _ _ _))
        · refine zV_iconst (v := (nI 1)) dX7_text_110 rfl rfl ?_
          refine zV_goto (tgt := 115) dX7_text_111 rfl ?_
          refine zV_callV (E' := eX7_must (g_rmv 2)) (av := [.int (nI 1)]) (st := []) (b := 76) dX7_text_115 rfl (k_RX7_259 _) rfl ⟨by decide, by decide⟩ ⟨by decide, by decide⟩ (Or.inl rfl) rfl (Nat.le_of_ble_eq_true rfl) rfl rfl rfl (m_mustw (x := (nI 1)) (hx.2.2.2.2.2.2.2.1.trans (by rw [if_neg hr1]))) (fun r115 M115 z => ?_)
          obtain ⟨rfl, rfl⟩ := z
          show zV G (eX7_text (g_rmv 8)) (0, 0) 118 [(0, .ref 76)] [] (mm (up2 I1 76 15 (nI 1)) J t) _
          refine zV_aload_n dX7_text_118 rfl 0 rfl rfl ?_
          refine zV_iconst (v := (nI 0)) dX7_text_119 rfl rfl ?_
          refine zV_puti 10 dX7_text_120 rfl fl_RX7_227 rfl (by decide) rfl rfl rfl ?_
          refine zV_aload_n dX7_text_123 rfl 0 rfl rfl ?_
          refine zV_getI (x := (nI 1)) 15 dX7_text_124 rfl fl_RX7_252 rfl (by decide) rfl (by rw [up2_nk (by decide), up2_same]) ?_
          refine zN_if_eq (tgt := 137) dX7_text_127 rfl rfl (by decide) (fun z => absurd z (by decide)) (fun _ => ?_)
          refine zV_iconst (v := (-1)) dX7_text_130 rfl rfl ?_
          refine zV_aload_n dX7_text_131 rfl 0 rfl rfl ?_
          refine zV_getI (x := (nI ((rItem tp L (nxt tp L b) τ).2.1.2.1))) 11 dX7_text_132 rfl fl_RX7_233 rfl (by decide) rfl (by rw [up2_nk (by decide), up2_nk (by decide)]; exact hx.2.2.2.2.2.2.1.1) ?_
          refine zA_isub (z := ((-1) - (nI ((rItem tp L (nxt tp L b) τ).2.1.2.1)))) dX7_text_135 rfl  (rfl) ?_
          exact zV_ireturn dX7_text_136 rfl rfl (PM.txt (I1 := (up2 (up2 I1 76 15 (nI 1)) 76 10 (nI 0))) hM (opt_n htp hLL (rAns_n hc hx.2.1 hx.1 (fun z => hr1 z.1))) (hM.1.mv (show (up2 (up2 I1 76 15 (nI 1)) 76 10 (nI 0)) 77 = I 77 from by rw [← hx.2.2.2.2.2.2.2.2.2.1 77 (by decide) (by decide) (by decide)]; funext z; rw [up2_ni (by decide), up2_ni (by decide)])) (fun i h76 h77 h84 h85 => by rw [← hx.2.2.2.2.2.2.2.2.2.1 i h76 h84 h85]; funext z; rw [up2_ni h76, up2_ni h76]) (by rw [up2_nk (by decide), up2_nk (by decide)]; exact hx.2.2.2.2.2.2.2.2.2.2 3 (by decide)) (up2_same _ _ _ _))
  · intro c hc ih
    intro I1 h1
    refine zV_iload_n dX7_text_27 rfl 1 rfl rfl ?_
    refine zV_aload_n dX7_text_28 rfl 0 rfl rfl ?_
    refine zV_getI (x := (nI S.1.1)) 19 dX7_text_29 rfl fl_RX7_278 rfl (by decide) rfl (by rw [h1.2 76 (by decide), up2_same]) ?_
    refine zN_icmp_ge (tgt := 53) dX7_text_32 rfl rfl (by omega) (by omega) (fun z => absurd z (by omega)) (fun _ => ?_)
    refine zV_aload_n dX7_text_35 rfl 0 rfl rfl ?_
    refine zV_getr (q' := 85) 20 dX7_text_36 rfl fl_RX7_52 rfl (by decide) rfl rfl ?_
    refine zV_iload_n dX7_text_39 rfl 1 rfl rfl ?_
    refine zV_aload_n dX7_text_40 rfl 0 rfl rfl ?_
    refine zV_iload_n dX7_text_41 rfl 1 rfl rfl ?_
    refine zV_iconst (v := (nI 1)) dX7_text_42 rfl rfl ?_
    refine zV_callV (E' := eX7_coinIs (g_rmv 1)) (av := [.int (nI c), .int (nI 1)]) (st := [.int (nI c), .ref 85]) (b := 76) dX7_text_43 rfl (k_RX7_99 _) rfl ⟨by decide, by decide⟩ ⟨by decide, by decide⟩ (Or.inl rfl) rfl (Nat.le_of_ble_eq_true rfl) rfl rfl rfl (m_coinIs (c := c) (f := 1) (hM.1.mv ((h1.2 77 (by decide)).trans (by funext z; rw [up2_ni (by decide), up2_ni (by decide), up2_ni (by decide), up2_ni (by decide)]))) hw.1 hc (by decide)) (fun r43 M43 z => ?_)
    obtain ⟨rfl, rfl⟩ := z
    show zV G (eX7_text (g_rmv 8)) (0, 0) 46 [(0, .ref 76), (1, .int (nI c))] [.int (nI (S.1.2.1 c 1)), .int (nI c), .ref 85] (mm I1 J t) _
    refine zV_iastore c dX7_text_46 rfl rfl rfl (by omega) (by decide)  ?_
    refine zV_iinc (y := (nI (c + 1))) (lv' := [(0, .ref 76), (1, .int (nI (c + 1)))]) dX7_text_47 rfl 1 rfl (nI_1 _) (by decide) rfl ?_
    refine zV_goto (tgt := 27) dX7_text_50 rfl ?_
    exact ih _ ⟨fun j hj => by
        by_cases e : j = c
        · rw [e, up2_same]
        · rw [up2_nk e]; exact h1.1 j (by omega), fun i hi => by rw [← h1.2 i hi]; funext z; exact up2_ni hi⟩
