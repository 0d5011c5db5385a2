/-! FLIPS: flip, strike of the reference -/
set_option maxRecDepth 100000 in
theorem m_areAll {G : mG} {I : Nat → Nat → Int32} {J : Nat → Nat → Int64} {t : Nat} {s z : Nat} {ns : Nat → Int32} {P : Nat → Bool} (hs : s < 4) (hz : z ≤ 40) (h87 : I 87 s = nI z) (h88 : ∀ k, k < z → I 88 (40 * s + k) = ns k) (h81 : ∀ v, v < 1001 → I 81 v = b2 (P v = true)) : zC G yX7_areAllSums (eX7_areAllSums (g_rmv 1)) [.ref 76, .int (nI s)] (mm I J t) (fun r M => r = some (.int (b2 (alln (fun i => decide (inR (ns i) 1000) && P (tn (ns i))) z = true))) ∧ M = mm I J t) := by
  refine zC_of (by decide +kernel) rfl (by decide) (Nat.le_of_ble_eq_true rfl) ?_
  show zV G (eX7_areAllSums (g_rmv 1)) (0, 0) 0 [(0, .ref 76), (1, .int (nI s))] [] (mm I J t) _
  refine zV_iconst (v := (nI 1)) dX7_areAllSums_0 rfl rfl ?_
  refine zV_istore_n (lv' := [(0, .ref 76), (1, .int (nI s)), (2, .int (nI 1))]) dX7_areAllSums_1 rfl rfl (by decide) rfl ?_
  refine zV_iconst (v := (nI 0)) dX7_areAllSums_2 rfl rfl ?_
  refine zV_istore_n (lv' := [(0, .ref 76), (1, .int (nI s)), (2, .int (nI 1)), (3, .int (nI 0))]) dX7_areAllSums_3 rfl rfl (by decide) rfl ?_
  refine z_for (fun k => (alln (fun i => decide (inR (ns i) 1000) && P (tn (ns i))) k = true) → zV G (eX7_areAllSums (g_rmv 1)) (0, 0) 4 [(0, .ref 76), (1, .int (nI s)), (2, .int (nI 1)), (3, .int (nI k))] [] (mm I J t) _) z ?_ ?_ 0 (Nat.zero_le _) (alln_iff.mpr (fun k hk => absurd hk (Nat.not_lt_zero _)))
  · intro hal
    refine zV_iload_n dX7_areAllSums_4 rfl 3 rfl rfl ?_
    refine zV_aload_n dX7_areAllSums_5 rfl 0 rfl rfl ?_
    refine zV_getr (q' := 87) 22 dX7_areAllSums_6 rfl fl_RX7_58 rfl (by decide) rfl rfl ?_
    refine zV_iload_n dX7_areAllSums_9 rfl 1 rfl rfl ?_
    refine zV_iald (x := (nI z)) s dX7_areAllSums_10 rfl rfl rfl (by omega) (by decide) h87 ?_
    refine zN_icmp_ge (tgt := 69) dX7_areAllSums_11 rfl rfl (by omega) (by omega) (fun _ => ?_) (fun z => absurd z (by omega))
    refine zV_iload_n dX7_areAllSums_69 rfl 2 rfl rfl ?_
    exact zV_ireturn dX7_areAllSums_70 rfl rfl (⟨z_b1 hal, rfl⟩)
  · intro k hk ih hal
    refine zV_iload_n dX7_areAllSums_4 rfl 3 rfl rfl ?_
    refine zV_aload_n dX7_areAllSums_5 rfl 0 rfl rfl ?_
    refine zV_getr (q' := 87) 22 dX7_areAllSums_6 rfl fl_RX7_58 rfl (by decide) rfl rfl ?_
    refine zV_iload_n dX7_areAllSums_9 rfl 1 rfl rfl ?_
    refine zV_iald (x := (nI z)) s dX7_areAllSums_10 rfl rfl rfl (by omega) (by decide) h87 ?_
    refine zN_icmp_ge (tgt := 69) dX7_areAllSums_11 rfl rfl (by omega) (by omega) (fun z => absurd z (by omega)) (fun _ => ?_)
    refine zV_iload_n dX7_areAllSums_14 rfl 2 rfl rfl ?_
    refine zN_if_eq (tgt := 69) dX7_areAllSums_15 rfl rfl (by decide) (fun z => absurd z (by decide)) (fun _ => ?_)
    refine zV_aload_n dX7_areAllSums_18 rfl 0 rfl rfl ?_
    refine zV_getr (q' := 88) 23 dX7_areAllSums_19 rfl fl_RX7_61 rfl (by decide) rfl rfl ?_
    refine zV_bipush (v := (nI 40)) dX7_areAllSums_22 rfl rfl ?_
    refine zV_iload_n dX7_areAllSums_24 rfl 1 rfl rfl ?_
    refine zA_imul (z := (nI (40 * s))) dX7_areAllSums_25 rfl  (pk_mul _ _) ?_
    refine zV_iload_n dX7_areAllSums_26 rfl 3 rfl rfl ?_
    refine zA_iadd (z := (nI ((40 * s) + k))) dX7_areAllSums_27 rfl  (nI_add _ _) ?_
    refine zV_iald (x := (ns k)) ((40 * s) + k) dX7_areAllSums_28 rfl rfl rfl (by omega) (by decide) (h88 k (by omega)) ?_
    refine zV_istore (lv' := [(0, .ref 76), (1, .int (nI s)), (2, .int (nI 1)), (3, .int (nI k)), (4, .int (ns k))]) dX7_areAllSums_29 rfl (by decide) rfl ?_
    refine zV_iload dX7_areAllSums_31 rfl 4 rfl ?_
    refine zV_iconst (v := (nI 0)) dX7_areAllSums_33 rfl rfl ?_
    refine zV_aload_n dX7_areAllSums_34 rfl 0 rfl rfl ?_
    refine zV_getr (q' := 81) 5 dX7_areAllSums_35 rfl fl_RX7_22 rfl (by decide) rfl rfl ?_
    refine zV_alen (v := nI 1001) dX7_areAllSums_38 rfl rfl (by decide) rfl ?_
    refine zV_iconst (v := (nI 1)) dX7_areAllSums_39 rfl rfl ?_
    refine zA_isub (z := (nI 1000)) dX7_areAllSums_40 rfl  (rfl) ?_
    refine zV_callS (E' := eX7_within (g_rmv 0)) (av := [.int (ns k), .int (nI 0), .int (nI 1000)]) (st := []) dX7_areAllSums_41 rfl (k_RX7_72 _) rfl ⟨by decide, by decide⟩ ⟨by decide, by decide⟩ (Or.inl rfl) rfl (Nat.le_of_ble_eq_true rfl) (m_within (x := (ns k)) (y := (nI 0)) (z := (nI 1000))) (fun r41 M41 z => ?_)
    obtain ⟨rfl, rfl⟩ := z
    show zV G (eX7_areAllSums (g_rmv 1)) (0, 0) 44 [(0, .ref 76), (1, .int (nI s)), (2, .int (nI 1)), (3, .int (nI k)), (4, .int (ns k))] [.int (b2 (inR (ns k) 1000))] (mm I J t) _
    refine zB_if_eq (tgt := 61) dX7_areAllSums_44 rfl rfl  (fun h44 => ?_) (fun h44 => ?_)
    · have hbad : ¬ (decide (inR (ns k) 1000) && P (tn (ns k))) = true := fun z => by rw [Bool.and_eq_true] at z; exact h44 (of_decide_eq_true z.1)
      refine zV_iconst (v := (nI 0)) dX7_areAllSums_61 rfl rfl ?_
      refine zV_istore_n (lv' := [(0, .ref 76), (1, .int (nI s)), (2, .int (nI 0)), (3, .int (nI k)), (4, .int (ns k))]) dX7_areAllSums_62 rfl rfl (by decide) rfl ?_
      refine zV_iinc (y := (nI (k + 1))) (lv' := [(0, .ref 76), (1, .int (nI s)), (2, .int (nI 0)), (3, .int (nI (k + 1))), (4, .int (ns k))]) dX7_areAllSums_63 rfl 3 rfl (nI_1 _) (by decide) rfl ?_
      refine zV_goto (tgt := 4) dX7_areAllSums_66 rfl ?_
      refine zV_iload_n dX7_areAllSums_4 rfl 3 rfl rfl ?_
      refine zV_aload_n dX7_areAllSums_5 rfl 0 rfl rfl ?_
      refine zV_getr (q' := 87) 22 dX7_areAllSums_6 rfl fl_RX7_58 rfl (by decide) rfl rfl ?_
      refine zV_iload_n dX7_areAllSums_9 rfl 1 rfl rfl ?_
      refine zV_iald (x := (nI z)) s dX7_areAllSums_10 rfl rfl rfl (by omega) (by decide) h87 ?_
      refine zN_icmp_ge (tgt := 69) dX7_areAllSums_11 rfl rfl (by omega) (by omega) (fun h11 => ?_) (fun h11 => ?_)
      · refine zV_iload_n dX7_areAllSums_69 rfl 2 rfl rfl ?_
        exact zV_ireturn dX7_areAllSums_70 rfl rfl (⟨z_b0 (fun q => hbad (alln_iff.mp q k hk)), rfl⟩)
      · refine zV_iload_n dX7_areAllSums_14 rfl 2 rfl rfl ?_
        refine zN_if_eq (tgt := 69) dX7_areAllSums_15 rfl rfl (by decide) (fun _ => ?_) (fun z => absurd z (by decide))
        refine zV_iload_n dX7_areAllSums_69 rfl 2 rfl rfl ?_
        exact zV_ireturn dX7_areAllSums_70 rfl rfl (⟨z_b0 (fun q => hbad (alln_iff.mp q k hk)), rfl⟩)
    · obtain ⟨v, hv, ev⟩ := (inR_iff (by decide)).mp h44
      have tv : tn (ns k) = v := by rw [ev, tn_nI (by omega)]
      rw [ev]
      refine zV_aload_n dX7_areAllSums_47 rfl 0 rfl rfl ?_
      refine zV_getr (q' := 81) 5 dX7_areAllSums_48 rfl fl_RX7_22 rfl (by decide) rfl rfl ?_
      refine zV_iload dX7_areAllSums_51 rfl 4 rfl ?_
      refine zV_zaload v dX7_areAllSums_53 rfl rfl rfl (by omega) (by decide) ?_
      refine zV_if_eq (tgt := 61) dX7_areAllSums_54 rfl rfl  (fun h54 => ?_) (fun h54 => ?_)
      · have hbad : ¬ (decide (inR (ns k) 1000) && P (tn (ns k))) = true := fun z => by rw [Bool.and_eq_true, tv] at z; rw [h81 v (by omega)] at h54; exact b2_z.mp h54 z.2
        refine zV_iconst (v := (nI 0)) dX7_areAllSums_61 rfl rfl ?_
        refine zV_istore_n (lv' := [(0, .ref 76), (1, .int (nI s)), (2, .int (nI 0)), (3, .int (nI k)), (4, .int (nI v))]) dX7_areAllSums_62 rfl rfl (by decide) rfl ?_
        refine zV_iinc (y := (nI (k + 1))) (lv' := [(0, .ref 76), (1, .int (nI s)), (2, .int (nI 0)), (3, .int (nI (k + 1))), (4, .int (nI v))]) dX7_areAllSums_63 rfl 3 rfl (nI_1 _) (by decide) rfl ?_
        refine zV_goto (tgt := 4) dX7_areAllSums_66 rfl ?_
        refine zV_iload_n dX7_areAllSums_4 rfl 3 rfl rfl ?_
        refine zV_aload_n dX7_areAllSums_5 rfl 0 rfl rfl ?_
        refine zV_getr (q' := 87) 22 dX7_areAllSums_6 rfl fl_RX7_58 rfl (by decide) rfl rfl ?_
        refine zV_iload_n dX7_areAllSums_9 rfl 1 rfl rfl ?_
        refine zV_iald (x := (nI z)) s dX7_areAllSums_10 rfl rfl rfl (by omega) (by decide) h87 ?_
        refine zN_icmp_ge (tgt := 69) dX7_areAllSums_11 rfl rfl (by omega) (by omega) (fun h11 => ?_) (fun h11 => ?_)
        · refine zV_iload_n dX7_areAllSums_69 rfl 2 rfl rfl ?_
          exact zV_ireturn dX7_areAllSums_70 rfl rfl (⟨z_b0 (fun q => hbad (alln_iff.mp q k hk)), rfl⟩)
        · refine zV_iload_n dX7_areAllSums_14 rfl 2 rfl rfl ?_
          refine zN_if_eq (tgt := 69) dX7_areAllSums_15 rfl rfl (by decide) (fun _ => ?_) (fun z => absurd z (by decide))
          refine zV_iload_n dX7_areAllSums_69 rfl 2 rfl rfl ?_
          exact zV_ireturn dX7_areAllSums_70 rfl rfl (⟨z_b0 (fun q => hbad (alln_iff.mp q k hk)), rfl⟩)
      · have hgd : (decide (inR (ns k) 1000) && P (tn (ns k))) = true := by rw [Bool.and_eq_true, tv]; exact ⟨decide_eq_true (by rw [ev]; exact (inR_iff (by decide)).mpr ⟨v, hv, rfl⟩), Classical.byContradiction fun z => h54 (by rw [h81 v (by omega)]; exact b2_z.mpr z)⟩
        refine zV_iconst (v := (nI 1)) dX7_areAllSums_57 rfl rfl ?_
        refine zV_goto (tgt := 62) dX7_areAllSums_58 rfl ?_
        refine zV_istore_n (lv' := [(0, .ref 76), (1, .int (nI s)), (2, .int (nI 1)), (3, .int (nI k)), (4, .int (nI v))]) dX7_areAllSums_62 rfl rfl (by decide) rfl ?_
        refine zV_iinc (y := (nI (k + 1))) (lv' := [(0, .ref 76), (1, .int (nI s)), (2, .int (nI 1)), (3, .int (nI (k + 1))), (4, .int (nI v))]) dX7_areAllSums_63 rfl 3 rfl (nI_1 _) (by decide) rfl ?_
        refine zV_goto (tgt := 4) dX7_areAllSums_66 rfl ?_
        refine zV_keep (lv' := [(0, .ref 76), (1, .int (nI s)), (2, .int (nI 1)), (3, .int (nI (k + 1)))]) [0, 1, 2, 3] rfl ?_
        exact ih (alln_s.mpr ⟨hal, hgd⟩)

theorem fo_bst_lt {r : Nat → Nat} {P : Nat → Prop} [DecidablePred P] {s : Nat} : ∀ m b, fo (bst r P) none s m = some b → b < m
  | 0, b, h => by cases h
  | m + 1, b, h => by
    change (if isSub s m = true then bst r P (fo (bst r P) none s m) m else fo (bst r P) none s m) = some b at h
    by_cases hb : isSub s m = true
    · rw [if_pos hb] at h
      cases eo : fo (bst r P) none s m with
      | none =>
        rw [eo] at h
        change (if P m then some m else none) = some b at h
        by_cases hp : P m
        · rw [if_pos hp] at h; cases h; omega
        · rw [if_neg hp] at h; cases h
      | some y =>
        have ih := fo_bst_lt m y eo
        rw [eo] at h
        change (if P m then (if r m < r y then some m else some y) else some y) = some b at h
        by_cases hp : P m
        · rw [if_pos hp] at h
          by_cases hr : r m < r y
          · rw [if_pos hr] at h; cases h; omega
          · rw [if_neg hr] at h; cases h; omega
        · rw [if_neg hp] at h; cases h; omega
    · rw [if_neg hb] at h
      have := fo_bst_lt m b h
      omega
theorem InvM.rep {I I' : Nat → Nat → Int32} {S : aS} (h : InvM I S) (hR : absR I' 77 S.1) (hf : ∀ i, i ≠ 77 → i ≠ 81 → I' i = I i) : InvM I' S := by
  obtain ⟨h1, h2, h3, h4, h5, h6, h7⟩ := h
  exact ⟨hR, by rw [hf 76 (by decide) (by decide)]; exact h2, fun k => (h3 k).mv (hf 78 (by decide) (by decide)), by rw [hf 76 (by decide) (by decide)]; exact h4, by rw [hf 82 (by decide) (by decide)]; exact h5, by rw [hf 80 (by decide) (by decide)]; exact h6, by rw [hf 86 (by decide) (by decide), hf 87 (by decide) (by decide), hf 88 (by decide) (by decide)]; exact h7⟩
theorem PM.sameR {I I1 : Nat → Nat → Int32} {J : Nat → Nat → Int64} {t : Nat} {S : aS} {o : Int32 × aS} {v : Int32} (h : InvM I S) (e : o = (v, S)) (hR : absR I1 77 S.1) (hf : ∀ i, i ≠ 77 → I1 i = I i) : PM I o (some (.int v)) (mm I1 J t) := by
  subst e
  exact ⟨_, _, _, rfl, rfl, h.rep hR (fun i a _ => hf i a), fun i hi => hf i (by omega)⟩
theorem PM.tellR {I I1 : Nat → Nat → Int32} {J : Nat → Nat → Int64} {t w : Nat} {S : aS} {o : Int32 × aS} (h : InvM I S) (hw : w < 7) (e : o = fnd S w) (hR : absR I1 77 S.1) (hf : ∀ i, i ≠ 77 → I1 i = I i) : PM I o (some (.int (fdg w))) (mm (mTell I1 w) J t) := by
  subst e
  exact ⟨_, _, _, rfl, rfl, (h.rep hR (fun i a _ => hf i a)).tell hw, fun i hi => by
    rw [← hf i (by omega)]
    funext k
    rw [mTell, up2_ni (by omega), up2_ni (by omega)]⟩
theorem PM.sameR2 {I I1 : Nat → Nat → Int32} {J : Nat → Nat → Int64} {t : Nat} {S : aS} {o : Int32 × aS} {v : Int32} (h : InvM I S) (e : o = (v, S)) (hR : absR I1 77 S.1) (hf : ∀ i, i ≠ 77 → i ≠ 81 → I1 i = I i) : PM I o (some (.int v)) (mm I1 J t) := by
  subst e
  exact ⟨_, _, _, rfl, rfl, h.rep hR hf, fun i hi => hf i (by omega) (by omega)⟩
theorem PM.tellR2 {I I1 : Nat → Nat → Int32} {J : Nat → Nat → Int64} {t w : Nat} {S : aS} {o : Int32 × aS} (h : InvM I S) (hw : w < 7) (e : o = fnd S w) (hR : absR I1 77 S.1) (hf : ∀ i, i ≠ 77 → i ≠ 81 → I1 i = I i) : PM I o (some (.int (fdg w))) (mm (mTell I1 w) J t) := by
  subst e
  exact ⟨_, _, _, rfl, rfl, (h.rep hR hf).tell hw, fun i hi => by
    rw [← hf i (by omega) (by omega)]
    funext k
    rw [mTell, up2_ni (by omega), up2_ni (by omega)]⟩
set_option maxRecDepth 100000 in
theorem q_flip {G : mG} {I : Nat → Nat → Int32} {J : Nat → Nat → Int64} {t : Nat} {B : Nat} {S : aS} (hM : InvM I S) (hw : wfS B S) {x y : Int32} : zC G yX7_flip (eX7_flip (g_rmv 6)) [.ref 76, .int x, .int y] (mm I J t) (fun r M => PM I (op_flip S x y) r M) := by
  refine zC_of (by decide +kernel) rfl (by decide) (Nat.le_of_ble_eq_true rfl) ?_
  have n10 := hw.1.1
  show zV G (eX7_flip (g_rmv 6)) (0, 0) 0 [(0, .ref 76), (1, .int x), (2, .int y)] [] (mm I J t) _
  refine zV_iload_n dX7_flip_0 rfl 1 rfl rfl ?_
  refine zV_callS (E' := eX7_isPurse (g_rmv 1)) (av := [.int x]) (st := []) dX7_flip_1 rfl (k_RX7_76 _) rfl ⟨by decide, by decide⟩ ⟨by decide, by decide⟩ (Or.inl rfl) rfl (Nat.le_of_ble_eq_true rfl) (m_isPurse (x := x)) (fun r1 M1 z => ?_)
  obtain ⟨rfl, rfl⟩ := z
  show zV G (eX7_flip (g_rmv 6)) (0, 0) 4 [(0, .ref 76), (1, .int x), (2, .int y)] [.int (b2 (inR x 3))] (mm I J t) _
  refine zB_if_eq (tgt := 14) dX7_flip_4 rfl rfl  (fun h4 => ?_) (fun h4 => ?_)
  · refine zV_aload_n dX7_flip_14 rfl 0 rfl rfl ?_
    refine zV_ldc (v := (-1000001)) dX7_flip_15 rfl tw970 ?_
    refine zV_callV (E' := eX7_finding (g_rmv 0)) (av := [.int (-1000001)]) (st := []) (b := 76) dX7_flip_17 rfl (k_RX7_87 _) rfl ⟨by decide, by decide⟩ ⟨by decide, by decide⟩ (Or.inl rfl) rfl (Nat.le_of_ble_eq_true rfl) rfl rfl rfl (m_finding (w := 0) (by decide) (by decide)) (fun r17 M17 z => ?_)
    obtain ⟨rfl, rfl⟩ := z
    show zV G (eX7_flip (g_rmv 6)) (0, 0) 20 [(0, .ref 76), (1, .int x), (2, .int y)] [.int (fdg 0)] (mm (mTell I 0) J t) _
    exact zV_ireturn dX7_flip_20 rfl rfl (PM.tell hM (by decide) (by unfold op_flip; rw [if_neg h4]) scM.rf)
  · refine zV_iload_n dX7_flip_7 rfl 2 rfl rfl ?_
    refine zV_callS (E' := eX7_isSum (g_rmv 1)) (av := [.int y]) (st := []) dX7_flip_8 rfl (k_RX7_166 _) rfl ⟨by decide, by decide⟩ ⟨by decide, by decide⟩ (Or.inl rfl) rfl (Nat.le_of_ble_eq_true rfl) (m_isSum (x := y)) (fun r8 M8 z => ?_)
    obtain ⟨rfl, rfl⟩ := z
    show zV G (eX7_flip (g_rmv 6)) (0, 0) 11 [(0, .ref 76), (1, .int x), (2, .int y)] [.int (b2 (inR y 999))] (mm I J t) _
    refine zB_if_ne (tgt := 21) dX7_flip_11 rfl rfl  (fun h11 => ?_) (fun h11 => ?_)
    · obtain ⟨p, hp, rfl⟩ := (inR_iff (by decide)).mp h4
      obtain ⟨v, hv, rfl⟩ := (inR_iff (by decide)).mp h11
      have hi1024 := ld_in_lt n10 p
      refine zV_aload_n dX7_flip_21 rfl 0 rfl rfl ?_
      refine zV_iload_n dX7_flip_22 rfl 1 rfl rfl ?_
      refine zV_callV (E' := eX7_setOf (g_rmv 2)) (av := [.int (nI p)]) (st := []) (b := 76) dX7_flip_23 rfl (k_RX7_139 _) rfl ⟨by decide, by decide⟩ ⟨by decide, by decide⟩ (Or.inl rfl) rfl (Nat.le_of_ble_eq_true rfl) rfl rfl rfl (m_setOf (p := p) hM.1 hw.1 (by omega)) (fun r23 M23 z => ?_)
      obtain ⟨rfl, rfl⟩ := z
      show zV G (eX7_flip (g_rmv 6)) (0, 0) 26 [(0, .ref 76), (1, .int (nI p)), (2, .int (nI v))] [.int (nI (ld_in S.1 p))] (mm I J t) _
      refine zV_istore_n (lv' := [(0, .ref 76), (1, .int (nI p)), (2, .int (nI v)), (3, .int (nI (ld_in S.1 p)))]) dX7_flip_26 rfl rfl (by decide) rfl ?_
      refine zV_iconst (v := (-1)) dX7_flip_27 rfl rfl ?_
      refine zV_istore (lv' := [(0, .ref 76), (1, .int (nI p)), (2, .int (nI v)), (3, .int (nI (ld_in S.1 p))), (4, .int (-1))]) dX7_flip_28 rfl (by decide) rfl ?_
      refine zV_iconst (v := (nI 0)) dX7_flip_30 rfl rfl ?_
      refine zV_istore (lv' := [(0, .ref 76), (1, .int (nI p)), (2, .int (nI v)), (3, .int (nI (ld_in S.1 p))), (4, .int (-1)), (5, .int (nI 0))]) dX7_flip_31 rfl (by decide) rfl ?_
      refine z_for (fun c => ∀ (I1 : Nat → Nat → Int32), (absR I1 77 S.1 ∧ ∀ i, i ≠ 77 → I1 i = I i) → zV G (eX7_flip (g_rmv 6)) (0, 0) 33 [(0, .ref 76), (1, .int (nI p)), (2, .int (nI v)), (3, .int (nI (ld_in S.1 p))), (4, .int (ans (fo (bst flr (fun t => flo S.1 (ld_in S.1 p) 1 (fun _ => nI v) t = true)) none (ld_in S.1 p) c))), (5, .int (nI c))] [] (mm I1 J t) _) ((ld_in S.1 p) + 1) ?_ ?_ 0 (Nat.zero_le _) I ⟨hM.1, fun _ _ => rfl⟩
      · intro I1 h1
        refine zV_iload dX7_flip_33 rfl 5 rfl ?_
        refine zV_iload_n dX7_flip_35 rfl 3 rfl rfl ?_
        refine zN_icmp_gt (tgt := 102) dX7_flip_36 rfl rfl (by omega) (by omega) (fun _ => ?_) (fun z => absurd z (by omega))
        cases eo : (fo (bst flr (fun t => flo S.1 (ld_in S.1 p) 1 (fun _ => nI v) t = true)) none (ld_in S.1 p) ((ld_in S.1 p) + 1)) with
        | none =>
          show zV G (eX7_flip (g_rmv 6)) (0, 0) 102 [(0, .ref 76), (1, .int (nI p)), (2, .int (nI v)), (3, .int (nI (ld_in S.1 p))), (4, .int (-1)), (5, .int (nI ((ld_in S.1 p) + 1)))] [] (mm I1 J t) _
          refine zV_iload dX7_flip_102 rfl 4 rfl ?_
          refine zV_if_ge (tgt := 116) dX7_flip_104 rfl rfl  (fun z => absurd z (by decide)) (fun _ => ?_)
          refine zV_aload_n dX7_flip_107 rfl 0 rfl rfl ?_
          refine zV_ldc (v := (-1000004)) dX7_flip_108 rfl tw1107 ?_
          refine zV_callV (E' := eX7_finding (g_rmv 0)) (av := [.int (-1000004)]) (st := []) (b := 76) dX7_flip_110 rfl (k_RX7_87 _) rfl ⟨by decide, by decide⟩ ⟨by decide, by decide⟩ (Or.inl rfl) rfl (Nat.le_of_ble_eq_true rfl) rfl rfl rfl (m_finding (w := 3) (by decide) (by decide)) (fun r110 M110 z => ?_)
          obtain ⟨rfl, rfl⟩ := z
          show zV G (eX7_flip (g_rmv 6)) (0, 0) 113 [(0, .ref 76), (1, .int (nI p)), (2, .int (nI v)), (3, .int (nI (ld_in S.1 p))), (4, .int (-1)), (5, .int (nI ((ld_in S.1 p) + 1)))] [.int (fdg 3)] (mm (mTell I1 3) J t) _
          refine zV_goto (tgt := 118) dX7_flip_113 rfl ?_
          exact zV_ireturn dX7_flip_118 rfl rfl (PM.tellR hM (by decide) (by unfold op_flip; rw [if_pos h4, if_pos h11, tn_nI (show p < 2 ^ 31 by omega)]; unfold ld_flp; rw [eo]) h1.1 h1.2)
        | some bb =>
          have hbc := fo_bst_lt _ _ eo
          show zV G (eX7_flip (g_rmv 6)) (0, 0) 102 [(0, .ref 76), (1, .int (nI p)), (2, .int (nI v)), (3, .int (nI (ld_in S.1 p))), (4, .int (nI bb)), (5, .int (nI ((ld_in S.1 p) + 1)))] [] (mm I1 J t) _
          refine zV_iload dX7_flip_102 rfl 4 rfl ?_
          refine zN_if_ge (tgt := 116) dX7_flip_104 rfl (by omega) rfl ?_
          refine zV_iload dX7_flip_116 rfl 4 rfl ?_
          exact zV_ireturn dX7_flip_118 rfl rfl (PM.sameR hM (by unfold op_flip; rw [if_pos h4, if_pos h11, tn_nI (show p < 2 ^ 31 by omega)]; unfold ld_flp; rw [eo]) h1.1 h1.2)
      · intro c hc ih I1 h1
        refine zV_iload dX7_flip_33 rfl 5 rfl ?_
        refine zV_iload_n dX7_flip_35 rfl 3 rfl rfl ?_
        refine zN_icmp_gt (tgt := 102) dX7_flip_36 rfl rfl (by omega) (by omega) (fun z => absurd z (by omega)) (fun _ => ?_)
        refine zV_iload dX7_flip_39 rfl 5 rfl ?_
        refine zV_iload_n dX7_flip_41 rfl 3 rfl rfl ?_
        refine zV_iconst (v := (-1)) dX7_flip_42 rfl rfl ?_
        refine zA_ixor (z := ((nI (ld_in S.1 p)) ^^^ (-1))) dX7_flip_43 rfl  (rfl) ?_
        refine zA_iand (z := (nI c &&& (nI (ld_in S.1 p) ^^^ (-1)))) dX7_flip_44 rfl  (rfl) ?_
        refine zV_if_ne (tgt := 96) dX7_flip_45 rfl rfl  (fun h45 => ?_) (fun h45 => ?_)
        · have hnb : ¬ isSub (ld_in S.1 p) c = true := fun z => h45 ((z_sub (by omega) (by omega)).mpr z)
          refine zV_iinc (y := (nI (c + 1))) (lv' := [(0, .ref 76), (1, .int (nI p)), (2, .int (nI v)), (3, .int (nI (ld_in S.1 p))), (4, .int (ans (fo (bst flr (fun t => flo S.1 (ld_in S.1 p) 1 (fun _ => nI v) t = true)) none (ld_in S.1 p) c))), (5, .int (nI (c + 1)))]) dX7_flip_96 rfl 5 rfl (nI_1 _) (by decide) rfl ?_
          refine zV_goto (tgt := 33) dX7_flip_99 rfl ?_
          have hst := show (fo (bst flr (fun t => flo S.1 (ld_in S.1 p) 1 (fun _ => nI v) t = true)) none (ld_in S.1 p) (c + 1)) = (fo (bst flr (fun t => flo S.1 (ld_in S.1 p) 1 (fun _ => nI v) t = true)) none (ld_in S.1 p) c) from if_neg hnb
          have ih2 := ih I1 h1
          rw [hst] at ih2
          exact ih2
        · have hsb := (z_sub (by omega) (by omega)).mp h45
          cases eo : (fo (bst flr (fun t => flo S.1 (ld_in S.1 p) 1 (fun _ => nI v) t = true)) none (ld_in S.1 p) c) with
          | none =>
            show zV G (eX7_flip (g_rmv 6)) (0, 0) 48 [(0, .ref 76), (1, .int (nI p)), (2, .int (nI v)), (3, .int (nI (ld_in S.1 p))), (4, .int (-1)), (5, .int (nI c))] [] (mm I1 J t) _
            refine zV_iload dX7_flip_48 rfl 4 rfl ?_
            refine zV_if_lt (tgt := 66) dX7_flip_50 rfl rfl  (fun _ => ?_) (fun z => absurd z (by decide))
            refine zV_aload_n dX7_flip_66 rfl 0 rfl rfl ?_
            refine zV_iload dX7_flip_67 rfl 5 rfl ?_
            refine zV_callV (E' := eX7_liesOtherwise (g_rmv 1)) (av := [.int (nI c)]) (st := []) (b := 76) dX7_flip_69 rfl (k_RX7_214 _) rfl ⟨by decide, by decide⟩ ⟨by decide, by decide⟩ (Or.inl rfl) rfl (Nat.le_of_ble_eq_true rfl) rfl rfl rfl (m_liesOther (t' := c) h1.1 hw.1 (by omega)) (fun r69 M69 z => ?_)
            obtain ⟨I69, rfl, rfl, hR69, hF69⟩ := z
            have hW69 := wf_flipN hw.1 c S.1.1
            show zV G (eX7_flip (g_rmv 6)) (0, 0) 72 [(0, .ref 76), (1, .int (nI p)), (2, .int (nI v)), (3, .int (nI (ld_in S.1 p))), (4, .int (-1)), (5, .int (nI c))] [] (mm I69 J t) _
            refine zV_aload_n dX7_flip_72 rfl 0 rfl rfl ?_
            refine zV_iload_n dX7_flip_73 rfl 1 rfl rfl ?_
            refine zV_iload_n dX7_flip_74 rfl 2 rfl rfl ?_
            refine zV_callV (E' := eX7_setWith (g_rmv 5)) (av := [.int (nI p), .int (nI v)]) (st := []) (b := 76) dX7_flip_75 rfl (k_RX7_169 _) rfl ⟨by decide, by decide⟩ ⟨by decide, by decide⟩ (Or.inl rfl) rfl (Nat.le_of_ble_eq_true rfl) rfl rfl rfl (m_setWith (p := p) (v := v) (σ := ld_flip S.1 c) hR69 hW69 (by omega) (by omega)) (fun r75 M75 z => ?_)
            obtain ⟨rfl, rfl⟩ := z
            rw [ld_in_flip]
            show zV G (eX7_flip (g_rmv 6)) (0, 0) 78 [(0, .ref 76), (1, .int (nI p)), (2, .int (nI v)), (3, .int (nI (ld_in S.1 p))), (4, .int (-1)), (5, .int (nI c))] [.int (ans (ld_with (ld_flip S.1 c) (ld_in S.1 p) v))] (mm I69 J t) _
            cases ew : ld_with (ld_flip S.1 c) (ld_in S.1 p) v with
            | none =>
              have hok : ¬ flo S.1 (ld_in S.1 p) 1 (fun _ => nI v) c = true := by rw [flo_1 hv]; exact with_none (σ := ld_flip S.1 c) (ld_in_p S.1 p) ew
              show zV G (eX7_flip (g_rmv 6)) (0, 0) 78 [(0, .ref 76), (1, .int (nI p)), (2, .int (nI v)), (3, .int (nI (ld_in S.1 p))), (4, .int (-1)), (5, .int (nI c))] [.int (-1)] (mm I69 J t) _
              refine zV_if_ge (tgt := 86) dX7_flip_78 rfl rfl  (fun z => absurd z (by decide)) (fun _ => ?_)
              refine zV_iload dX7_flip_81 rfl 4 rfl ?_
              refine zV_goto (tgt := 88) dX7_flip_83 rfl ?_
              refine zV_istore (lv' := [(0, .ref 76), (1, .int (nI p)), (2, .int (nI v)), (3, .int (nI (ld_in S.1 p))), (4, .int (-1)), (5, .int (nI c))]) dX7_flip_88 rfl (by decide) rfl ?_
              refine zV_aload_n dX7_flip_90 rfl 0 rfl rfl ?_
              refine zV_iload dX7_flip_91 rfl 5 rfl ?_
              refine zV_callV (E' := eX7_liesOtherwise (g_rmv 1)) (av := [.int (nI c)]) (st := []) (b := 76) dX7_flip_93 rfl (k_RX7_214 _) rfl ⟨by decide, by decide⟩ ⟨by decide, by decide⟩ (Or.inl rfl) rfl (Nat.le_of_ble_eq_true rfl) rfl rfl rfl (m_liesOther (t' := c) (σ := ld_flip S.1 c) hR69 hW69 (by omega)) (fun r93 M93 z => ?_)
              obtain ⟨I93, rfl, rfl, hR93, hF93⟩ := z
              show zV G (eX7_flip (g_rmv 6)) (0, 0) 96 [(0, .ref 76), (1, .int (nI p)), (2, .int (nI v)), (3, .int (nI (ld_in S.1 p))), (4, .int (-1)), (5, .int (nI c))] [] (mm I93 J t) _
              refine zV_iinc (y := (nI (c + 1))) (lv' := [(0, .ref 76), (1, .int (nI p)), (2, .int (nI v)), (3, .int (nI (ld_in S.1 p))), (4, .int (-1)), (5, .int (nI (c + 1)))]) dX7_flip_96 rfl 5 rfl (nI_1 _) (by decide) rfl ?_
              refine zV_goto (tgt := 33) dX7_flip_99 rfl ?_
              have hst := show (fo (bst flr (fun t => flo S.1 (ld_in S.1 p) 1 (fun _ => nI v) t = true)) none (ld_in S.1 p) (c + 1)) = none from (if_pos hsb).trans (by rw [eo]; exact if_neg hok)
              have ih2 := ih I93 ⟨absR.unflip hw.1 hR93, fun i hi => by rw [hF93 i hi, hF69 i hi]; exact h1.2 i hi⟩
              rw [hst] at ih2
              exact ih2
            | some tt =>
              have hok : flo S.1 (ld_in S.1 p) 1 (fun _ => nI v) c = true := by rw [flo_1 hv]; exact with_some (σ := ld_flip S.1 c) (ld_in_p S.1 p) ew
              have hle2 := ld_with_le _ ew
              show zV G (eX7_flip (g_rmv 6)) (0, 0) 78 [(0, .ref 76), (1, .int (nI p)), (2, .int (nI v)), (3, .int (nI (ld_in S.1 p))), (4, .int (-1)), (5, .int (nI c))] [.int (nI tt)] (mm I69 J t) _
              refine zN_if_ge (tgt := 86) dX7_flip_78 rfl (by omega) rfl ?_
              refine zV_iload dX7_flip_86 rfl 5 rfl ?_
              refine zV_istore (lv' := [(0, .ref 76), (1, .int (nI p)), (2, .int (nI v)), (3, .int (nI (ld_in S.1 p))), (4, .int (nI c)), (5, .int (nI c))]) dX7_flip_88 rfl (by decide) rfl ?_
              refine zV_aload_n dX7_flip_90 rfl 0 rfl rfl ?_
              refine zV_iload dX7_flip_91 rfl 5 rfl ?_
              refine zV_callV (E' := eX7_liesOtherwise (g_rmv 1)) (av := [.int (nI c)]) (st := []) (b := 76) dX7_flip_93 rfl (k_RX7_214 _) rfl ⟨by decide, by decide⟩ ⟨by decide, by decide⟩ (Or.inl rfl) rfl (Nat.le_of_ble_eq_true rfl) rfl rfl rfl (m_liesOther (t' := c) (σ := ld_flip S.1 c) hR69 hW69 (by omega)) (fun r93 M93 z => ?_)
              obtain ⟨I93, rfl, rfl, hR93, hF93⟩ := z
              show zV G (eX7_flip (g_rmv 6)) (0, 0) 96 [(0, .ref 76), (1, .int (nI p)), (2, .int (nI v)), (3, .int (nI (ld_in S.1 p))), (4, .int (nI c)), (5, .int (nI c))] [] (mm I93 J t) _
              refine zV_iinc (y := (nI (c + 1))) (lv' := [(0, .ref 76), (1, .int (nI p)), (2, .int (nI v)), (3, .int (nI (ld_in S.1 p))), (4, .int (nI c)), (5, .int (nI (c + 1)))]) dX7_flip_96 rfl 5 rfl (nI_1 _) (by decide) rfl ?_
              refine zV_goto (tgt := 33) dX7_flip_99 rfl ?_
              have hst := show (fo (bst flr (fun t => flo S.1 (ld_in S.1 p) 1 (fun _ => nI v) t = true)) none (ld_in S.1 p) (c + 1)) = some c from (if_pos hsb).trans (by rw [eo]; exact if_pos hok)
              have ih2 := ih I93 ⟨absR.unflip hw.1 hR93, fun i hi => by rw [hF93 i hi, hF69 i hi]; exact h1.2 i hi⟩
              rw [hst] at ih2
              exact ih2
          | some bb =>
            have hbc := fo_bst_lt _ _ eo
            show zV G (eX7_flip (g_rmv 6)) (0, 0) 48 [(0, .ref 76), (1, .int (nI p)), (2, .int (nI v)), (3, .int (nI (ld_in S.1 p))), (4, .int (nI bb)), (5, .int (nI c))] [] (mm I1 J t) _
            refine zV_iload dX7_flip_48 rfl 4 rfl ?_
            refine zN_if_lt (tgt := 66) dX7_flip_50 rfl (by omega) rfl ?_
            refine zV_iload dX7_flip_53 rfl 5 rfl ?_
            refine zV_callS (E' := eX7_bits (g_rmv 0)) (av := [.int (nI c)]) (st := []) dX7_flip_55 rfl (k_RX7_186 _) rfl ⟨by decide, by decide⟩ ⟨by decide, by decide⟩ (Or.inl rfl) rfl (Nat.le_of_ble_eq_true rfl) (m_bits (s := c) (by omega)) (fun r55 M55 z => ?_)
            obtain ⟨rfl, rfl⟩ := z
            have pb1 := pcnt_le c
            show zV G (eX7_flip (g_rmv 6)) (0, 0) 58 [(0, .ref 76), (1, .int (nI p)), (2, .int (nI v)), (3, .int (nI (ld_in S.1 p))), (4, .int (nI bb)), (5, .int (nI c))] [.int (nI (pcnt c))] (mm I1 J t) _
            refine zV_iload dX7_flip_58 rfl 4 rfl ?_
            refine zV_callS (E' := eX7_bits (g_rmv 0)) (av := [.int (nI bb)]) (st := [.int (nI (pcnt c))]) dX7_flip_60 rfl (k_RX7_186 _) rfl ⟨by decide, by decide⟩ ⟨by decide, by decide⟩ (Or.inl rfl) rfl (Nat.le_of_ble_eq_true rfl) (m_bits (s := bb) (by omega)) (fun r60 M60 z => ?_)
            obtain ⟨rfl, rfl⟩ := z
            have pb2 := pcnt_le bb
            show zV G (eX7_flip (g_rmv 6)) (0, 0) 63 [(0, .ref 76), (1, .int (nI p)), (2, .int (nI v)), (3, .int (nI (ld_in S.1 p))), (4, .int (nI bb)), (5, .int (nI c))] [.int (nI (pcnt bb)), .int (nI (pcnt c))] (mm I1 J t) _
            refine zN_icmp_ge (tgt := 96) dX7_flip_63 rfl rfl (by omega) (by omega) (fun h63 => ?_) (fun h63 => ?_)
            · skip
              refine zV_iinc (y := (nI (c + 1))) (lv' := [(0, .ref 76), (1, .int (nI p)), (2, .int (nI v)), (3, .int (nI (ld_in S.1 p))), (4, .int (nI bb)), (5, .int (nI (c + 1)))]) dX7_flip_96 rfl 5 rfl (nI_1 _) (by decide) rfl ?_
              refine zV_goto (tgt := 33) dX7_flip_99 rfl ?_
              have hst := show (fo (bst flr (fun t => flo S.1 (ld_in S.1 p) 1 (fun _ => nI v) t = true)) none (ld_in S.1 p) (c + 1)) = some bb from (if_pos hsb).trans (by rw [eo]; exact bst_keep (fun z => by have := (flr_lt hbc (by omega)).mp z; omega))
              have ih2 := ih I1 h1
              rw [hst] at ih2
              exact ih2
            · skip
              refine zV_aload_n dX7_flip_66 rfl 0 rfl rfl ?_
              refine zV_iload dX7_flip_67 rfl 5 rfl ?_
              refine zV_callV (E' := eX7_liesOtherwise (g_rmv 1)) (av := [.int (nI c)]) (st := []) (b := 76) dX7_flip_69 rfl (k_RX7_214 _) rfl ⟨by decide, by decide⟩ ⟨by decide, by decide⟩ (Or.inl rfl) rfl (Nat.le_of_ble_eq_true rfl) rfl rfl rfl (m_liesOther (t' := c) h1.1 hw.1 (by omega)) (fun r69 M69 z => ?_)
              obtain ⟨I69, rfl, rfl, hR69, hF69⟩ := z
              have hW69 := wf_flipN hw.1 c S.1.1
              show zV G (eX7_flip (g_rmv 6)) (0, 0) 72 [(0, .ref 76), (1, .int (nI p)), (2, .int (nI v)), (3, .int (nI (ld_in S.1 p))), (4, .int (nI bb)), (5, .int (nI c))] [] (mm I69 J t) _
              refine zV_aload_n dX7_flip_72 rfl 0 rfl rfl ?_
              refine zV_iload_n dX7_flip_73 rfl 1 rfl rfl ?_
              refine zV_iload_n dX7_flip_74 rfl 2 rfl rfl ?_
              refine zV_callV (E' := eX7_setWith (g_rmv 5)) (av := [.int (nI p), .int (nI v)]) (st := []) (b := 76) dX7_flip_75 rfl (k_RX7_169 _) rfl ⟨by decide, by decide⟩ ⟨by decide, by decide⟩ (Or.inl rfl) rfl (Nat.le_of_ble_eq_true rfl) rfl rfl rfl (m_setWith (p := p) (v := v) (σ := ld_flip S.1 c) hR69 hW69 (by omega) (by omega)) (fun r75 M75 z => ?_)
              obtain ⟨rfl, rfl⟩ := z
              rw [ld_in_flip]
              show zV G (eX7_flip (g_rmv 6)) (0, 0) 78 [(0, .ref 76), (1, .int (nI p)), (2, .int (nI v)), (3, .int (nI (ld_in S.1 p))), (4, .int (nI bb)), (5, .int (nI c))] [.int (ans (ld_with (ld_flip S.1 c) (ld_in S.1 p) v))] (mm I69 J t) _
              cases ew : ld_with (ld_flip S.1 c) (ld_in S.1 p) v with
              | none =>
                have hok : ¬ flo S.1 (ld_in S.1 p) 1 (fun _ => nI v) c = true := by rw [flo_1 hv]; exact with_none (σ := ld_flip S.1 c) (ld_in_p S.1 p) ew
                show zV G (eX7_flip (g_rmv 6)) (0, 0) 78 [(0, .ref 76), (1, .int (nI p)), (2, .int (nI v)), (3, .int (nI (ld_in S.1 p))), (4, .int (nI bb)), (5, .int (nI c))] [.int (-1)] (mm I69 J t) _
                refine zV_if_ge (tgt := 86) dX7_flip_78 rfl rfl  (fun z => absurd z (by decide)) (fun _ => ?_)
                refine zV_iload dX7_flip_81 rfl 4 rfl ?_
                refine zV_goto (tgt := 88) dX7_flip_83 rfl ?_
                refine zV_istore (lv' := [(0, .ref 76), (1, .int (nI p)), (2, .int (nI v)), (3, .int (nI (ld_in S.1 p))), (4, .int (nI bb)), (5, .int (nI c))]) dX7_flip_88 rfl (by decide) rfl ?_
                refine zV_aload_n dX7_flip_90 rfl 0 rfl rfl ?_
                refine zV_iload dX7_flip_91 rfl 5 rfl ?_
                refine zV_callV (E' := eX7_liesOtherwise (g_rmv 1)) (av := [.int (nI c)]) (st := []) (b := 76) dX7_flip_93 rfl (k_RX7_214 _) rfl ⟨by decide, by decide⟩ ⟨by decide, by decide⟩ (Or.inl rfl) rfl (Nat.le_of_ble_eq_true rfl) rfl rfl rfl (m_liesOther (t' := c) (σ := ld_flip S.1 c) hR69 hW69 (by omega)) (fun r93 M93 z => ?_)
                obtain ⟨I93, rfl, rfl, hR93, hF93⟩ := z
                show zV G (eX7_flip (g_rmv 6)) (0, 0) 96 [(0, .ref 76), (1, .int (nI p)), (2, .int (nI v)), (3, .int (nI (ld_in S.1 p))), (4, .int (nI bb)), (5, .int (nI c))] [] (mm I93 J t) _
                refine zV_iinc (y := (nI (c + 1))) (lv' := [(0, .ref 76), (1, .int (nI p)), (2, .int (nI v)), (3, .int (nI (ld_in S.1 p))), (4, .int (nI bb)), (5, .int (nI (c + 1)))]) dX7_flip_96 rfl 5 rfl (nI_1 _) (by decide) rfl ?_
                refine zV_goto (tgt := 33) dX7_flip_99 rfl ?_
                have hst := show (fo (bst flr (fun t => flo S.1 (ld_in S.1 p) 1 (fun _ => nI v) t = true)) none (ld_in S.1 p) (c + 1)) = some bb from (if_pos hsb).trans (by rw [eo]; exact if_neg hok)
                have ih2 := ih I93 ⟨absR.unflip hw.1 hR93, fun i hi => by rw [hF93 i hi, hF69 i hi]; exact h1.2 i hi⟩
                rw [hst] at ih2
                exact ih2
              | some tt =>
                have hok : flo S.1 (ld_in S.1 p) 1 (fun _ => nI v) c = true := by rw [flo_1 hv]; exact with_some (σ := ld_flip S.1 c) (ld_in_p S.1 p) ew
                have hle2 := ld_with_le _ ew
                show zV G (eX7_flip (g_rmv 6)) (0, 0) 78 [(0, .ref 76), (1, .int (nI p)), (2, .int (nI v)), (3, .int (nI (ld_in S.1 p))), (4, .int (nI bb)), (5, .int (nI c))] [.int (nI tt)] (mm I69 J t) _
                refine zN_if_ge (tgt := 86) dX7_flip_78 rfl (by omega) rfl ?_
                refine zV_iload dX7_flip_86 rfl 5 rfl ?_
                refine zV_istore (lv' := [(0, .ref 76), (1, .int (nI p)), (2, .int (nI v)), (3, .int (nI (ld_in S.1 p))), (4, .int (nI c)), (5, .int (nI c))]) dX7_flip_88 rfl (by decide) rfl ?_
                refine zV_aload_n dX7_flip_90 rfl 0 rfl rfl ?_
                refine zV_iload dX7_flip_91 rfl 5 rfl ?_
                refine zV_callV (E' := eX7_liesOtherwise (g_rmv 1)) (av := [.int (nI c)]) (st := []) (b := 76) dX7_flip_93 rfl (k_RX7_214 _) rfl ⟨by decide, by decide⟩ ⟨by decide, by decide⟩ (Or.inl rfl) rfl (Nat.le_of_ble_eq_true rfl) rfl rfl rfl (m_liesOther (t' := c) (σ := ld_flip S.1 c) hR69 hW69 (by omega)) (fun r93 M93 z => ?_)
                obtain ⟨I93, rfl, rfl, hR93, hF93⟩ := z
                show zV G (eX7_flip (g_rmv 6)) (0, 0) 96 [(0, .ref 76), (1, .int (nI p)), (2, .int (nI v)), (3, .int (nI (ld_in S.1 p))), (4, .int (nI c)), (5, .int (nI c))] [] (mm I93 J t) _
                refine zV_iinc (y := (nI (c + 1))) (lv' := [(0, .ref 76), (1, .int (nI p)), (2, .int (nI v)), (3, .int (nI (ld_in S.1 p))), (4, .int (nI c)), (5, .int (nI (c + 1)))]) dX7_flip_96 rfl 5 rfl (nI_1 _) (by decide) rfl ?_
                refine zV_goto (tgt := 33) dX7_flip_99 rfl ?_
                have hst := show (fo (bst flr (fun t => flo S.1 (ld_in S.1 p) 1 (fun _ => nI v) t = true)) none (ld_in S.1 p) (c + 1)) = some c from (if_pos hsb).trans (by rw [eo]; exact (if_pos hok).trans (if_pos ((flr_lt hbc (by omega)).mpr (by omega))))
                have ih2 := ih I93 ⟨absR.unflip hw.1 hR93, fun i hi => by rw [hF93 i hi, hF69 i hi]; exact h1.2 i hi⟩
                rw [hst] at ih2
                exact ih2
    · refine zV_aload_n dX7_flip_14 rfl 0 rfl rfl ?_
      refine zV_ldc (v := (-1000001)) dX7_flip_15 rfl tw970 ?_
      refine zV_callV (E' := eX7_finding (g_rmv 0)) (av := [.int (-1000001)]) (st := []) (b := 76) dX7_flip_17 rfl (k_RX7_87 _) rfl ⟨by decide, by decide⟩ ⟨by decide, by decide⟩ (Or.inl rfl) rfl (Nat.le_of_ble_eq_true rfl) rfl rfl rfl (m_finding (w := 0) (by decide) (by decide)) (fun r17 M17 z => ?_)
      obtain ⟨rfl, rfl⟩ := z
      show zV G (eX7_flip (g_rmv 6)) (0, 0) 20 [(0, .ref 76), (1, .int x), (2, .int y)] [.int (fdg 0)] (mm (mTell I 0) J t) _
      exact zV_ireturn dX7_flip_20 rfl rfl (PM.tell hM (by decide) (by unfold op_flip; rw [if_pos h4, if_neg h11]) scM.rf)

set_option maxRecDepth 100000 in
theorem q_strike {G : mG} {I : Nat → Nat → Int32} {J : Nat → Nat → Int64} {t : Nat} {B : Nat} {S : aS} (hM : InvM I S) (hw : wfS B S) {x y : Int32} : zC G yX7_strike (eX7_strike (g_rmv 6)) [.ref 76, .int x, .int y] (mm I J t) (fun r M => PM I (op_strike S x y) r M) := by
  refine zC_of (by decide +kernel) rfl (by decide) (Nat.le_of_ble_eq_true rfl) ?_
  have n10 := hw.1.1
  show zV G (eX7_strike (g_rmv 6)) (0, 0) 0 [(0, .ref 76), (1, .int x), (2, .int y)] [] (mm I J t) _
  refine zV_iload_n dX7_strike_0 rfl 1 rfl rfl ?_
  refine zV_callS (E' := eX7_isSheet (g_rmv 1)) (av := [.int x]) (st := []) dX7_strike_1 rfl (k_RX7_305 _) rfl ⟨by decide, by decide⟩ ⟨by decide, by decide⟩ (Or.inl rfl) rfl (Nat.le_of_ble_eq_true rfl) (m_isSheet (x := x)) (fun r1 M1 z => ?_)
  obtain ⟨rfl, rfl⟩ := z
  show zV G (eX7_strike (g_rmv 6)) (0, 0) 4 [(0, .ref 76), (1, .int x), (2, .int y)] [.int (b2 (inR x 3))] (mm I J t) _
  refine zB_if_ne (tgt := 14) dX7_strike_4 rfl rfl  (fun h4 => ?_) (fun h4 => ?_)
  · obtain ⟨s, hs3, rfl⟩ := (inR_iff (by decide)).mp h4
    have hs : s < 4 := by omega
    have bs := (hw.2.2.2.2.2.1 s hs).1
    have zs40 := (hw.2.2.2.2.2.1 s hs).2
    refine zV_aload_n dX7_strike_14 rfl 0 rfl rfl ?_
    refine zV_getr (q' := 86) 21 dX7_strike_15 rfl fl_RX7_55 rfl (by decide) rfl rfl ?_
    refine zV_iload_n dX7_strike_18 rfl 1 rfl rfl ?_
    refine zV_iald (x := (nI (S.2.2.2.2.2.1 s))) s dX7_strike_19 rfl rfl rfl (by omega) (by decide) ((hM.2.2.2.2.2.2 s hs).1) ?_
    refine zN_if_ne (tgt := 31) dX7_strike_20 rfl rfl (by omega) (fun h20 => ?_) (fun h20 => ?_)
    · refine zV_iload_n dX7_strike_31 rfl 2 rfl rfl ?_
      refine zV_callS (E' := eX7_isPurse (g_rmv 1)) (av := [.int y]) (st := []) dX7_strike_32 rfl (k_RX7_76 _) rfl ⟨by decide, by decide⟩ ⟨by decide, by decide⟩ (Or.inl rfl) rfl (Nat.le_of_ble_eq_true rfl) (m_isPurse (x := y)) (fun r32 M32 z => ?_)
      obtain ⟨rfl, rfl⟩ := z
      show zV G (eX7_strike (g_rmv 6)) (0, 0) 35 [(0, .ref 76), (1, .int (nI s)), (2, .int y)] [.int (b2 (inR y 3))] (mm I J t) _
      refine zB_if_ne (tgt := 45) dX7_strike_35 rfl rfl  (fun h35 => ?_) (fun h35 => ?_)
      · obtain ⟨p, hp, rfl⟩ := (inR_iff (by decide)).mp h35
        have hi1024 := ld_in_lt n10 p
        refine zV_aload_n dX7_strike_45 rfl 0 rfl rfl ?_
        refine zV_iload_n dX7_strike_46 rfl 2 rfl rfl ?_
        refine zV_callV (E' := eX7_setOf (g_rmv 2)) (av := [.int (nI p)]) (st := []) (b := 76) dX7_strike_47 rfl (k_RX7_139 _) rfl ⟨by decide, by decide⟩ ⟨by decide, by decide⟩ (Or.inl rfl) rfl (Nat.le_of_ble_eq_true rfl) rfl rfl rfl (m_setOf (p := p) hM.1 hw.1 (by omega)) (fun r47 M47 z => ?_)
        obtain ⟨rfl, rfl⟩ := z
        show zV G (eX7_strike (g_rmv 6)) (0, 0) 50 [(0, .ref 76), (1, .int (nI s)), (2, .int (nI p))] [.int (nI (ld_in S.1 p))] (mm I J t) _
        refine zV_istore_n (lv' := [(0, .ref 76), (1, .int (nI s)), (2, .int (nI p)), (3, .int (nI (ld_in S.1 p)))]) dX7_strike_50 rfl rfl (by decide) rfl ?_
        refine zV_iconst (v := (-1)) dX7_strike_51 rfl rfl ?_
        refine zV_istore (lv' := [(0, .ref 76), (1, .int (nI s)), (2, .int (nI p)), (3, .int (nI (ld_in S.1 p))), (4, .int (-1))]) dX7_strike_52 rfl (by decide) rfl ?_
        refine zV_iconst (v := (nI 0)) dX7_strike_54 rfl rfl ?_
        refine zV_istore (lv' := [(0, .ref 76), (1, .int (nI s)), (2, .int (nI p)), (3, .int (nI (ld_in S.1 p))), (4, .int (-1)), (5, .int (nI 0))]) dX7_strike_55 rfl (by decide) rfl ?_
        refine z_for (fun c => ∀ (I1 : Nat → Nat → Int32), (absR I1 77 S.1 ∧ ∀ i, i ≠ 77 → i ≠ 81 → I1 i = I i) → zV G (eX7_strike (g_rmv 6)) (0, 0) 57 [(0, .ref 76), (1, .int (nI s)), (2, .int (nI p)), (3, .int (nI (ld_in S.1 p))), (4, .int (ans (fo (bst flr (fun t => flo S.1 (ld_in S.1 p) (S.2.2.2.2.2.2.1 s) (S.2.2.2.2.2.2.2 s) t = true)) none (ld_in S.1 p) c))), (5, .int (nI c))] [] (mm I1 J t) _) ((ld_in S.1 p) + 1) ?_ ?_ 0 (Nat.zero_le _) I ⟨hM.1, fun _ _ _ => rfl⟩
        · intro I1 h1
          refine zV_iload dX7_strike_57 rfl 5 rfl ?_
          refine zV_iload_n dX7_strike_59 rfl 3 rfl rfl ?_
          refine zN_icmp_gt (tgt := 130) dX7_strike_60 rfl rfl (by omega) (by omega) (fun _ => ?_) (fun z => absurd z (by omega))
          cases eo : (fo (bst flr (fun t => flo S.1 (ld_in S.1 p) (S.2.2.2.2.2.2.1 s) (S.2.2.2.2.2.2.2 s) t = true)) none (ld_in S.1 p) ((ld_in S.1 p) + 1)) with
          | none =>
            show zV G (eX7_strike (g_rmv 6)) (0, 0) 130 [(0, .ref 76), (1, .int (nI s)), (2, .int (nI p)), (3, .int (nI (ld_in S.1 p))), (4, .int (-1)), (5, .int (nI ((ld_in S.1 p) + 1)))] [] (mm I1 J t) _
            refine zV_iload dX7_strike_130 rfl 4 rfl ?_
            refine zV_if_ge (tgt := 144) dX7_strike_132 rfl rfl  (fun z => absurd z (by decide)) (fun _ => ?_)
            refine zV_aload_n dX7_strike_135 rfl 0 rfl rfl ?_
            refine zV_ldc (v := (-1000004)) dX7_strike_136 rfl tw1107 ?_
            refine zV_callV (E' := eX7_finding (g_rmv 0)) (av := [.int (-1000004)]) (st := []) (b := 76) dX7_strike_138 rfl (k_RX7_87 _) rfl ⟨by decide, by decide⟩ ⟨by decide, by decide⟩ (Or.inl rfl) rfl (Nat.le_of_ble_eq_true rfl) rfl rfl rfl (m_finding (w := 3) (by decide) (by decide)) (fun r138 M138 z => ?_)
            obtain ⟨rfl, rfl⟩ := z
            show zV G (eX7_strike (g_rmv 6)) (0, 0) 141 [(0, .ref 76), (1, .int (nI s)), (2, .int (nI p)), (3, .int (nI (ld_in S.1 p))), (4, .int (-1)), (5, .int (nI ((ld_in S.1 p) + 1)))] [.int (fdg 3)] (mm (mTell I1 3) J t) _
            refine zV_goto (tgt := 146) dX7_strike_141 rfl ?_
            exact zV_ireturn dX7_strike_146 rfl rfl (PM.tellR2 hM (by decide) (by unfold op_strike; rw [if_pos h4, tn_nI (show s < 2 ^ 31 by omega), if_neg h20, if_pos h35, tn_nI (show p < 2 ^ 31 by omega)]; unfold ld_flp; rw [eo]) h1.1 h1.2)
          | some bb =>
            have hbc := fo_bst_lt _ _ eo
            show zV G (eX7_strike (g_rmv 6)) (0, 0) 130 [(0, .ref 76), (1, .int (nI s)), (2, .int (nI p)), (3, .int (nI (ld_in S.1 p))), (4, .int (nI bb)), (5, .int (nI ((ld_in S.1 p) + 1)))] [] (mm I1 J t) _
            refine zV_iload dX7_strike_130 rfl 4 rfl ?_
            refine zN_if_ge (tgt := 144) dX7_strike_132 rfl (by omega) rfl ?_
            refine zV_iload dX7_strike_144 rfl 4 rfl ?_
            exact zV_ireturn dX7_strike_146 rfl rfl (PM.sameR2 hM (by unfold op_strike; rw [if_pos h4, tn_nI (show s < 2 ^ 31 by omega), if_neg h20, if_pos h35, tn_nI (show p < 2 ^ 31 by omega)]; unfold ld_flp; rw [eo]) h1.1 h1.2)
        · intro c hc ih I1 h1
          refine zV_iload dX7_strike_57 rfl 5 rfl ?_
          refine zV_iload_n dX7_strike_59 rfl 3 rfl rfl ?_
          refine zN_icmp_gt (tgt := 130) dX7_strike_60 rfl rfl (by omega) (by omega) (fun z => absurd z (by omega)) (fun _ => ?_)
          refine zV_iload dX7_strike_63 rfl 5 rfl ?_
          refine zV_iload_n dX7_strike_65 rfl 3 rfl rfl ?_
          refine zV_iconst (v := (-1)) dX7_strike_66 rfl rfl ?_
          refine zA_ixor (z := ((nI (ld_in S.1 p)) ^^^ (-1))) dX7_strike_67 rfl  (rfl) ?_
          refine zA_iand (z := (nI c &&& (nI (ld_in S.1 p) ^^^ (-1)))) dX7_strike_68 rfl  (rfl) ?_
          refine zV_if_ne (tgt := 124) dX7_strike_69 rfl rfl  (fun h69 => ?_) (fun h69 => ?_)
          · have hnb : ¬ isSub (ld_in S.1 p) c = true := fun z => h69 ((z_sub (by omega) (by omega)).mpr z)
            refine zV_iinc (y := (nI (c + 1))) (lv' := [(0, .ref 76), (1, .int (nI s)), (2, .int (nI p)), (3, .int (nI (ld_in S.1 p))), (4, .int (ans (fo (bst flr (fun t => flo S.1 (ld_in S.1 p) (S.2.2.2.2.2.2.1 s) (S.2.2.2.2.2.2.2 s) t = true)) none (ld_in S.1 p) c))), (5, .int (nI (c + 1)))]) dX7_strike_124 rfl 5 rfl (nI_1 _) (by decide) rfl ?_
            refine zV_goto (tgt := 57) dX7_strike_127 rfl ?_
            have hst := show (fo (bst flr (fun t => flo S.1 (ld_in S.1 p) (S.2.2.2.2.2.2.1 s) (S.2.2.2.2.2.2.2 s) t = true)) none (ld_in S.1 p) (c + 1)) = (fo (bst flr (fun t => flo S.1 (ld_in S.1 p) (S.2.2.2.2.2.2.1 s) (S.2.2.2.2.2.2.2 s) t = true)) none (ld_in S.1 p) c) from if_neg hnb
            have ih2 := ih I1 h1
            rw [hst] at ih2
            exact ih2
          · have hsb := (z_sub (by omega) (by omega)).mp h69
            cases eo : (fo (bst flr (fun t => flo S.1 (ld_in S.1 p) (S.2.2.2.2.2.2.1 s) (S.2.2.2.2.2.2.2 s) t = true)) none (ld_in S.1 p) c) with
            | none =>
              show zV G (eX7_strike (g_rmv 6)) (0, 0) 72 [(0, .ref 76), (1, .int (nI s)), (2, .int (nI p)), (3, .int (nI (ld_in S.1 p))), (4, .int (-1)), (5, .int (nI c))] [] (mm I1 J t) _
              refine zV_iload dX7_strike_72 rfl 4 rfl ?_
              refine zV_if_lt (tgt := 90) dX7_strike_74 rfl rfl  (fun _ => ?_) (fun z => absurd z (by decide))
              refine zV_aload_n dX7_strike_90 rfl 0 rfl rfl ?_
              refine zV_iload dX7_strike_91 rfl 5 rfl ?_
              refine zV_callV (E' := eX7_liesOtherwise (g_rmv 1)) (av := [.int (nI c)]) (st := []) (b := 76) dX7_strike_93 rfl (k_RX7_214 _) rfl ⟨by decide, by decide⟩ ⟨by decide, by decide⟩ (Or.inl rfl) rfl (Nat.le_of_ble_eq_true rfl) rfl rfl rfl (m_liesOther (t' := c) h1.1 hw.1 (by omega)) (fun r93 M93 z => ?_)
              obtain ⟨I93, rfl, rfl, hR93, hF93⟩ := z
              have hW93 := wf_flipN hw.1 c S.1.1
              show zV G (eX7_strike (g_rmv 6)) (0, 0) 96 [(0, .ref 76), (1, .int (nI s)), (2, .int (nI p)), (3, .int (nI (ld_in S.1 p))), (4, .int (-1)), (5, .int (nI c))] [] (mm I93 J t) _
              refine zV_aload_n dX7_strike_96 rfl 0 rfl rfl ?_
              refine zV_iload_n dX7_strike_97 rfl 2 rfl rfl ?_
              refine zV_callV (E' := eX7_findSums (g_rmv 5)) (av := [.int (nI p)]) (st := []) (b := 76) dX7_strike_98 rfl (k_RX7_176 _) rfl ⟨by decide, by decide⟩ ⟨by decide, by decide⟩ (Or.inl rfl) rfl (Nat.le_of_ble_eq_true rfl) rfl rfl rfl (m_findSums (p := p) (σ := ld_flip S.1 c) hR93 hW93 (by omega)) (fun r98 M98 z => ?_)
              obtain ⟨I98, rfl, rfl, hX98, hF98⟩ := z
              rw [ld_in_flip] at hX98
              show zV G (eX7_strike (g_rmv 6)) (0, 0) 101 [(0, .ref 76), (1, .int (nI s)), (2, .int (nI p)), (3, .int (nI (ld_in S.1 p))), (4, .int (-1)), (5, .int (nI c))] [] (mm I98 J t) _
              refine zV_aload_n dX7_strike_101 rfl 0 rfl rfl ?_
              refine zV_iload_n dX7_strike_102 rfl 1 rfl rfl ?_
              refine zV_callV (E' := eX7_areAllSums (g_rmv 1)) (av := [.int (nI s)]) (st := []) (b := 76) dX7_strike_103 rfl (k_RX7_312 _) rfl ⟨by decide, by decide⟩ ⟨by decide, by decide⟩ (Or.inl rfl) rfl (Nat.le_of_ble_eq_true rfl) rfl rfl rfl (m_areAll (s := s) (z := S.2.2.2.2.2.2.1 s) (ns := S.2.2.2.2.2.2.2 s) (P := rcd (ld_flip S.1 c) (ld_in S.1 p)) hs (by omega) (by rw [hF98 87 (by decide), hF93 87 (by decide), h1.2 87 (by decide) (by decide)]; exact (hM.2.2.2.2.2.2 s hs).2.1) (fun k hk => by rw [hF98 88 (by decide), hF93 88 (by decide), h1.2 88 (by decide) (by decide)]; exact (hM.2.2.2.2.2.2 s hs).2.2 k (by omega)) hX98) (fun r103 M103 z => ?_)
              obtain ⟨rfl, rfl⟩ := z
              show zV G (eX7_strike (g_rmv 6)) (0, 0) 106 [(0, .ref 76), (1, .int (nI s)), (2, .int (nI p)), (3, .int (nI (ld_in S.1 p))), (4, .int (-1)), (5, .int (nI c))] [.int (b2 (flo S.1 (ld_in S.1 p) (S.2.2.2.2.2.2.1 s) (S.2.2.2.2.2.2.2 s) c = true))] (mm I98 J t) _
              refine zB_if_eq (tgt := 114) dX7_strike_106 rfl rfl  (fun h106 => ?_) (fun h106 => ?_)
              · have hok := h106
                refine zV_iload dX7_strike_114 rfl 4 rfl ?_
                refine zV_istore (lv' := [(0, .ref 76), (1, .int (nI s)), (2, .int (nI p)), (3, .int (nI (ld_in S.1 p))), (4, .int (-1)), (5, .int (nI c))]) dX7_strike_116 rfl (by decide) rfl ?_
                refine zV_aload_n dX7_strike_118 rfl 0 rfl rfl ?_
                refine zV_iload dX7_strike_119 rfl 5 rfl ?_
                refine zV_callV (E' := eX7_liesOtherwise (g_rmv 1)) (av := [.int (nI c)]) (st := []) (b := 76) dX7_strike_121 rfl (k_RX7_214 _) rfl ⟨by decide, by decide⟩ ⟨by decide, by decide⟩ (Or.inl rfl) rfl (Nat.le_of_ble_eq_true rfl) rfl rfl rfl (m_liesOther (t' := c) (σ := ld_flip S.1 c) (hR93.mv (hF98 77 (by decide))) hW93 (by omega)) (fun r121 M121 z => ?_)
                obtain ⟨I121, rfl, rfl, hR121, hF121⟩ := z
                show zV G (eX7_strike (g_rmv 6)) (0, 0) 124 [(0, .ref 76), (1, .int (nI s)), (2, .int (nI p)), (3, .int (nI (ld_in S.1 p))), (4, .int (-1)), (5, .int (nI c))] [] (mm I121 J t) _
                refine zV_iinc (y := (nI (c + 1))) (lv' := [(0, .ref 76), (1, .int (nI s)), (2, .int (nI p)), (3, .int (nI (ld_in S.1 p))), (4, .int (-1)), (5, .int (nI (c + 1)))]) dX7_strike_124 rfl 5 rfl (nI_1 _) (by decide) rfl ?_
                refine zV_goto (tgt := 57) dX7_strike_127 rfl ?_
                have hst := show (fo (bst flr (fun t => flo S.1 (ld_in S.1 p) (S.2.2.2.2.2.2.1 s) (S.2.2.2.2.2.2.2 s) t = true)) none (ld_in S.1 p) (c + 1)) = none from (if_pos hsb).trans (by rw [eo]; exact if_neg hok)
                have ih2 := ih I121 ⟨absR.unflip hw.1 hR121, fun i hi h8 => by rw [hF121 i hi, hF98 i h8, hF93 i hi]; exact h1.2 i hi h8⟩
                rw [hst] at ih2
                exact ih2
              · have hok := h106
                refine zV_iload dX7_strike_109 rfl 5 rfl ?_
                refine zV_goto (tgt := 116) dX7_strike_111 rfl ?_
                refine zV_istore (lv' := [(0, .ref 76), (1, .int (nI s)), (2, .int (nI p)), (3, .int (nI (ld_in S.1 p))), (4, .int (nI c)), (5, .int (nI c))]) dX7_strike_116 rfl (by decide) rfl ?_
                refine zV_aload_n dX7_strike_118 rfl 0 rfl rfl ?_
                refine zV_iload dX7_strike_119 rfl 5 rfl ?_
                refine zV_callV (E' := eX7_liesOtherwise (g_rmv 1)) (av := [.int (nI c)]) (st := []) (b := 76) dX7_strike_121 rfl (k_RX7_214 _) rfl ⟨by decide, by decide⟩ ⟨by decide, by decide⟩ (Or.inl rfl) rfl (Nat.le_of_ble_eq_true rfl) rfl rfl rfl (m_liesOther (t' := c) (σ := ld_flip S.1 c) (hR93.mv (hF98 77 (by decide))) hW93 (by omega)) (fun r121 M121 z => ?_)
                obtain ⟨I121, rfl, rfl, hR121, hF121⟩ := z
                show zV G (eX7_strike (g_rmv 6)) (0, 0) 124 [(0, .ref 76), (1, .int (nI s)), (2, .int (nI p)), (3, .int (nI (ld_in S.1 p))), (4, .int (nI c)), (5, .int (nI c))] [] (mm I121 J t) _
                refine zV_iinc (y := (nI (c + 1))) (lv' := [(0, .ref 76), (1, .int (nI s)), (2, .int (nI p)), (3, .int (nI (ld_in S.1 p))), (4, .int (nI c)), (5, .int (nI (c + 1)))]) dX7_strike_124 rfl 5 rfl (nI_1 _) (by decide) rfl ?_
                refine zV_goto (tgt := 57) dX7_strike_127 rfl ?_
                have hst := show (fo (bst flr (fun t => flo S.1 (ld_in S.1 p) (S.2.2.2.2.2.2.1 s) (S.2.2.2.2.2.2.2 s) t = true)) none (ld_in S.1 p) (c + 1)) = some c from (if_pos hsb).trans (by rw [eo]; exact if_pos hok)
                have ih2 := ih I121 ⟨absR.unflip hw.1 hR121, fun i hi h8 => by rw [hF121 i hi, hF98 i h8, hF93 i hi]; exact h1.2 i hi h8⟩
                rw [hst] at ih2
                exact ih2
            | some bb =>
              have hbc := fo_bst_lt _ _ eo
              show zV G (eX7_strike (g_rmv 6)) (0, 0) 72 [(0, .ref 76), (1, .int (nI s)), (2, .int (nI p)), (3, .int (nI (ld_in S.1 p))), (4, .int (nI bb)), (5, .int (nI c))] [] (mm I1 J t) _
              refine zV_iload dX7_strike_72 rfl 4 rfl ?_
              refine zN_if_lt (tgt := 90) dX7_strike_74 rfl (by omega) rfl ?_
              refine zV_iload dX7_strike_77 rfl 5 rfl ?_
              refine zV_callS (E' := eX7_bits (g_rmv 0)) (av := [.int (nI c)]) (st := []) dX7_strike_79 rfl (k_RX7_186 _) rfl ⟨by decide, by decide⟩ ⟨by decide, by decide⟩ (Or.inl rfl) rfl (Nat.le_of_ble_eq_true rfl) (m_bits (s := c) (by omega)) (fun r79 M79 z => ?_)
              obtain ⟨rfl, rfl⟩ := z
              have pb1 := pcnt_le c
              show zV G (eX7_strike (g_rmv 6)) (0, 0) 82 [(0, .ref 76), (1, .int (nI s)), (2, .int (nI p)), (3, .int (nI (ld_in S.1 p))), (4, .int (nI bb)), (5, .int (nI c))] [.int (nI (pcnt c))] (mm I1 J t) _
              refine zV_iload dX7_strike_82 rfl 4 rfl ?_
              refine zV_callS (E' := eX7_bits (g_rmv 0)) (av := [.int (nI bb)]) (st := [.int (nI (pcnt c))]) dX7_strike_84 rfl (k_RX7_186 _) rfl ⟨by decide, by decide⟩ ⟨by decide, by decide⟩ (Or.inl rfl) rfl (Nat.le_of_ble_eq_true rfl) (m_bits (s := bb) (by omega)) (fun r84 M84 z => ?_)
              obtain ⟨rfl, rfl⟩ := z
              have pb2 := pcnt_le bb
              show zV G (eX7_strike (g_rmv 6)) (0, 0) 87 [(0, .ref 76), (1, .int (nI s)), (2, .int (nI p)), (3, .int (nI (ld_in S.1 p))), (4, .int (nI bb)), (5, .int (nI c))] [.int (nI (pcnt bb)), .int (nI (pcnt c))] (mm I1 J t) _
              refine zN_icmp_ge (tgt := 124) dX7_strike_87 rfl rfl (by omega) (by omega) (fun h87 => ?_) (fun h87 => ?_)
              · skip
                refine zV_iinc (y := (nI (c + 1))) (lv' := [(0, .ref 76), (1, .int (nI s)), (2, .int (nI p)), (3, .int (nI (ld_in S.1 p))), (4, .int (nI bb)), (5, .int (nI (c + 1)))]) dX7_strike_124 rfl 5 rfl (nI_1 _) (by decide) rfl ?_
                refine zV_goto (tgt := 57) dX7_strike_127 rfl ?_
                have hst := show (fo (bst flr (fun t => flo S.1 (ld_in S.1 p) (S.2.2.2.2.2.2.1 s) (S.2.2.2.2.2.2.2 s) t = true)) none (ld_in S.1 p) (c + 1)) = some bb from (if_pos hsb).trans (by rw [eo]; exact bst_keep (fun z => by have := (flr_lt hbc (by omega)).mp z; omega))
                have ih2 := ih I1 h1
                rw [hst] at ih2
                exact ih2
              · skip
                refine zV_aload_n dX7_strike_90 rfl 0 rfl rfl ?_
                refine zV_iload dX7_strike_91 rfl 5 rfl ?_
                refine zV_callV (E' := eX7_liesOtherwise (g_rmv 1)) (av := [.int (nI c)]) (st := []) (b := 76) dX7_strike_93 rfl (k_RX7_214 _) rfl ⟨by decide, by decide⟩ ⟨by decide, by decide⟩ (Or.inl rfl) rfl (Nat.le_of_ble_eq_true rfl) rfl rfl rfl (m_liesOther (t' := c) h1.1 hw.1 (by omega)) (fun r93 M93 z => ?_)
                obtain ⟨I93, rfl, rfl, hR93, hF93⟩ := z
                have hW93 := wf_flipN hw.1 c S.1.1
                show zV G (eX7_strike (g_rmv 6)) (0, 0) 96 [(0, .ref 76), (1, .int (nI s)), (2, .int (nI p)), (3, .int (nI (ld_in S.1 p))), (4, .int (nI bb)), (5, .int (nI c))] [] (mm I93 J t) _
                refine zV_aload_n dX7_strike_96 rfl 0 rfl rfl ?_
                refine zV_iload_n dX7_strike_97 rfl 2 rfl rfl ?_
                refine zV_callV (E' := eX7_findSums (g_rmv 5)) (av := [.int (nI p)]) (st := []) (b := 76) dX7_strike_98 rfl (k_RX7_176 _) rfl ⟨by decide, by decide⟩ ⟨by decide, by decide⟩ (Or.inl rfl) rfl (Nat.le_of_ble_eq_true rfl) rfl rfl rfl (m_findSums (p := p) (σ := ld_flip S.1 c) hR93 hW93 (by omega)) (fun r98 M98 z => ?_)
                obtain ⟨I98, rfl, rfl, hX98, hF98⟩ := z
                rw [ld_in_flip] at hX98
                show zV G (eX7_strike (g_rmv 6)) (0, 0) 101 [(0, .ref 76), (1, .int (nI s)), (2, .int (nI p)), (3, .int (nI (ld_in S.1 p))), (4, .int (nI bb)), (5, .int (nI c))] [] (mm I98 J t) _
                refine zV_aload_n dX7_strike_101 rfl 0 rfl rfl ?_
                refine zV_iload_n dX7_strike_102 rfl 1 rfl rfl ?_
                refine zV_callV (E' := eX7_areAllSums (g_rmv 1)) (av := [.int (nI s)]) (st := []) (b := 76) dX7_strike_103 rfl (k_RX7_312 _) rfl ⟨by decide, by decide⟩ ⟨by decide, by decide⟩ (Or.inl rfl) rfl (Nat.le_of_ble_eq_true rfl) rfl rfl rfl (m_areAll (s := s) (z := S.2.2.2.2.2.2.1 s) (ns := S.2.2.2.2.2.2.2 s) (P := rcd (ld_flip S.1 c) (ld_in S.1 p)) hs (by omega) (by rw [hF98 87 (by decide), hF93 87 (by decide), h1.2 87 (by decide) (by decide)]; exact (hM.2.2.2.2.2.2 s hs).2.1) (fun k hk => by rw [hF98 88 (by decide), hF93 88 (by decide), h1.2 88 (by decide) (by decide)]; exact (hM.2.2.2.2.2.2 s hs).2.2 k (by omega)) hX98) (fun r103 M103 z => ?_)
                obtain ⟨rfl, rfl⟩ := z
                show zV G (eX7_strike (g_rmv 6)) (0, 0) 106 [(0, .ref 76), (1, .int (nI s)), (2, .int (nI p)), (3, .int (nI (ld_in S.1 p))), (4, .int (nI bb)), (5, .int (nI c))] [.int (b2 (flo S.1 (ld_in S.1 p) (S.2.2.2.2.2.2.1 s) (S.2.2.2.2.2.2.2 s) c = true))] (mm I98 J t) _
                refine zB_if_eq (tgt := 114) dX7_strike_106 rfl rfl  (fun h106 => ?_) (fun h106 => ?_)
                · have hok := h106
                  refine zV_iload dX7_strike_114 rfl 4 rfl ?_
                  refine zV_istore (lv' := [(0, .ref 76), (1, .int (nI s)), (2, .int (nI p)), (3, .int (nI (ld_in S.1 p))), (4, .int (nI bb)), (5, .int (nI c))]) dX7_strike_116 rfl (by decide) rfl ?_
                  refine zV_aload_n dX7_strike_118 rfl 0 rfl rfl ?_
                  refine zV_iload dX7_strike_119 rfl 5 rfl ?_
                  refine zV_callV (E' := eX7_liesOtherwise (g_rmv 1)) (av := [.int (nI c)]) (st := []) (b := 76) dX7_strike_121 rfl (k_RX7_214 _) rfl ⟨by decide, by decide⟩ ⟨by decide, by decide⟩ (Or.inl rfl) rfl (Nat.le_of_ble_eq_true rfl) rfl rfl rfl (m_liesOther (t' := c) (σ := ld_flip S.1 c) (hR93.mv (hF98 77 (by decide))) hW93 (by omega)) (fun r121 M121 z => ?_)
                  obtain ⟨I121, rfl, rfl, hR121, hF121⟩ := z
                  show zV G (eX7_strike (g_rmv 6)) (0, 0) 124 [(0, .ref 76), (1, .int (nI s)), (2, .int (nI p)), (3, .int (nI (ld_in S.1 p))), (4, .int (nI bb)), (5, .int (nI c))] [] (mm I121 J t) _
                  refine zV_iinc (y := (nI (c + 1))) (lv' := [(0, .ref 76), (1, .int (nI s)), (2, .int (nI p)), (3, .int (nI (ld_in S.1 p))), (4, .int (nI bb)), (5, .int (nI (c + 1)))]) dX7_strike_124 rfl 5 rfl (nI_1 _) (by decide) rfl ?_
                  refine zV_goto (tgt := 57) dX7_strike_127 rfl ?_
                  have hst := show (fo (bst flr (fun t => flo S.1 (ld_in S.1 p) (S.2.2.2.2.2.2.1 s) (S.2.2.2.2.2.2.2 s) t = true)) none (ld_in S.1 p) (c + 1)) = some bb from (if_pos hsb).trans (by rw [eo]; exact if_neg hok)
                  have ih2 := ih I121 ⟨absR.unflip hw.1 hR121, fun i hi h8 => by rw [hF121 i hi, hF98 i h8, hF93 i hi]; exact h1.2 i hi h8⟩
                  rw [hst] at ih2
                  exact ih2
                · have hok := h106
                  refine zV_iload dX7_strike_109 rfl 5 rfl ?_
                  refine zV_goto (tgt := 116) dX7_strike_111 rfl ?_
                  refine zV_istore (lv' := [(0, .ref 76), (1, .int (nI s)), (2, .int (nI p)), (3, .int (nI (ld_in S.1 p))), (4, .int (nI c)), (5, .int (nI c))]) dX7_strike_116 rfl (by decide) rfl ?_
                  refine zV_aload_n dX7_strike_118 rfl 0 rfl rfl ?_
                  refine zV_iload dX7_strike_119 rfl 5 rfl ?_
                  refine zV_callV (E' := eX7_liesOtherwise (g_rmv 1)) (av := [.int (nI c)]) (st := []) (b := 76) dX7_strike_121 rfl (k_RX7_214 _) rfl ⟨by decide, by decide⟩ ⟨by decide, by decide⟩ (Or.inl rfl) rfl (Nat.le_of_ble_eq_true rfl) rfl rfl rfl (m_liesOther (t' := c) (σ := ld_flip S.1 c) (hR93.mv (hF98 77 (by decide))) hW93 (by omega)) (fun r121 M121 z => ?_)
                  obtain ⟨I121, rfl, rfl, hR121, hF121⟩ := z
                  show zV G (eX7_strike (g_rmv 6)) (0, 0) 124 [(0, .ref 76), (1, .int (nI s)), (2, .int (nI p)), (3, .int (nI (ld_in S.1 p))), (4, .int (nI c)), (5, .int (nI c))] [] (mm I121 J t) _
                  refine zV_iinc (y := (nI (c + 1))) (lv' := [(0, .ref 76), (1, .int (nI s)), (2, .int (nI p)), (3, .int (nI (ld_in S.1 p))), (4, .int (nI c)), (5, .int (nI (c + 1)))]) dX7_strike_124 rfl 5 rfl (nI_1 _) (by decide) rfl ?_
                  refine zV_goto (tgt := 57) dX7_strike_127 rfl ?_
                  have hst := show (fo (bst flr (fun t => flo S.1 (ld_in S.1 p) (S.2.2.2.2.2.2.1 s) (S.2.2.2.2.2.2.2 s) t = true)) none (ld_in S.1 p) (c + 1)) = some c from (if_pos hsb).trans (by rw [eo]; exact (if_pos hok).trans (if_pos ((flr_lt hbc (by omega)).mpr (by omega))))
                  have ih2 := ih I121 ⟨absR.unflip hw.1 hR121, fun i hi h8 => by rw [hF121 i hi, hF98 i h8, hF93 i hi]; exact h1.2 i hi h8⟩
                  rw [hst] at ih2
                  exact ih2
      · refine zV_aload_n dX7_strike_38 rfl 0 rfl rfl ?_
        refine zV_ldc (v := (-1000001)) dX7_strike_39 rfl tw970 ?_
        refine zV_callV (E' := eX7_finding (g_rmv 0)) (av := [.int (-1000001)]) (st := []) (b := 76) dX7_strike_41 rfl (k_RX7_87 _) rfl ⟨by decide, by decide⟩ ⟨by decide, by decide⟩ (Or.inl rfl) rfl (Nat.le_of_ble_eq_true rfl) rfl rfl rfl (m_finding (w := 0) (by decide) (by decide)) (fun r41 M41 z => ?_)
        obtain ⟨rfl, rfl⟩ := z
        show zV G (eX7_strike (g_rmv 6)) (0, 0) 44 [(0, .ref 76), (1, .int (nI s)), (2, .int y)] [.int (fdg 0)] (mm (mTell I 0) J t) _
        exact zV_ireturn dX7_strike_44 rfl rfl (PM.tell hM (by decide) (by unfold op_strike; rw [if_pos h4, tn_nI (show s < 2 ^ 31 by omega), if_neg h20, if_neg h35]) scM.rf)
    · refine zV_aload_n dX7_strike_23 rfl 0 rfl rfl ?_
      refine zV_ldcw (v := (-1000006)) dX7_strike_24 rfl tw1329 ?_
      refine zV_callV (E' := eX7_finding (g_rmv 0)) (av := [.int (-1000006)]) (st := []) (b := 76) dX7_strike_27 rfl (k_RX7_87 _) rfl ⟨by decide, by decide⟩ ⟨by decide, by decide⟩ (Or.inl rfl) rfl (Nat.le_of_ble_eq_true rfl) rfl rfl rfl (m_finding (w := 5) (by decide) (by decide)) (fun r27 M27 z => ?_)
      obtain ⟨rfl, rfl⟩ := z
      show zV G (eX7_strike (g_rmv 6)) (0, 0) 30 [(0, .ref 76), (1, .int (nI s)), (2, .int y)] [.int (fdg 5)] (mm (mTell I 5) J t) _
      exact zV_ireturn dX7_strike_30 rfl rfl (PM.tell hM (by decide) (by unfold op_strike; rw [if_pos h4, tn_nI (show s < 2 ^ 31 by omega), if_pos h20]) scM.rf)
  · refine zV_aload_n dX7_strike_7 rfl 0 rfl rfl ?_
    refine zV_ldc (v := (-1000001)) dX7_strike_8 rfl tw970 ?_
    refine zV_callV (E' := eX7_finding (g_rmv 0)) (av := [.int (-1000001)]) (st := []) (b := 76) dX7_strike_10 rfl (k_RX7_87 _) rfl ⟨by decide, by decide⟩ ⟨by decide, by decide⟩ (Or.inl rfl) rfl (Nat.le_of_ble_eq_true rfl) rfl rfl rfl (m_finding (w := 0) (by decide) (by decide)) (fun r10 M10 z => ?_)
    obtain ⟨rfl, rfl⟩ := z
    show zV G (eX7_strike (g_rmv 6)) (0, 0) 13 [(0, .ref 76), (1, .int x), (2, .int y)] [.int (fdg 0)] (mm (mTell I 0) J t) _
    exact zV_ireturn dX7_strike_13 rfl rfl (PM.tell hM (by decide) (by unfold op_strike; rw [if_neg h4]) scM.rf)
