/-! judge of the reference -/
theorem PM.back2 {I I1 : Nat → Nat → Int32} {J : Nat → Nat → Int64} {t B : Nat} {S : aS} {o : Int32 × aS} {v : Int32} (h : InvM I S) (hw : wfS B S) (e : o = (v, S)) (hr : ∀ j, j < 73 → I1 77 j = I 77 j) (hf : ∀ i, i ≠ 77 → i ≠ 79 → i ≠ 81 → i ≠ 76 → I1 i = I i) (f3 : I1 76 3 = I 76 3) (f10 : I1 76 10 = I 76 10) : PM I o (some (.int v)) (mm I1 J t) := by
  subst e
  exact ⟨_, _, _, rfl, rfl, h.bk hw hr hf f3 f10, fun i hi => hf i (by omega) (by omega) (by omega) (by omega)⟩
def fr4 (I I' : Nat → Nat → Int32) : Prop := (∀ i, i ≠ 77 → i ≠ 76 → I' i = I i) ∧ ∀ k, k ≠ 6 → k ≠ 7 → k ≠ 8 → I' 76 k = I 76 k
theorem fr4.rf {I : Nat → Nat → Int32} : fr4 I I := ⟨fun _ _ _ => rfl, fun _ _ _ _ => rfl⟩
theorem fr4.tr3 {I I' I'' : Nat → Nat → Int32} (h : fr4 I I') (h' : fr3 I' I'') : fr4 I I'' := ⟨fun i a b => (h'.1 i b).trans (h.1 i a b), fun k a b c => (h'.2 k a b c).trans (h.2 k a b c)⟩
theorem fr4.trM {I I' I'' : Nat → Nat → Int32} (h : fr4 I I') (h' : frM I' I'') : fr4 I I'' := ⟨fun i a b => (h' i a).trans (h.1 i a b), fun k a b c => by rw [h' 76 (by decide)]; exact h.2 k a b c⟩
set_option maxRecDepth 100000 in
theorem q_judge {G : mG} {I : Nat → Nat → Int32} {J : Nat → Nat → Int64} {t : Nat} {B : Nat} {S : aS} (hM : InvM I S) (hw : wfS B S) (hB : B + 164 < 1000000) {x y z : Int32} : zC G yX7_judge (eX7_judge (g_rmv 7)) [.ref 76, .int x, .int y, .int z] (mm I J t) (fun r M => PM I (op_judge S x y z) r M) := by
  refine zC_of (by decide +kernel) rfl (by decide) (Nat.le_of_ble_eq_true rfl) ?_
  have n10 := hw.1.1
  show zV G (eX7_judge (g_rmv 7)) (0, 0) 0 [(0, .ref 76), (1, .int x), (2, .int y), (3, .int z)] [] (mm I J t) _
  refine zV_iload_n dX7_judge_0 rfl 1 rfl rfl ?_
  refine zV_callS (E' := eX7_isSheet (g_rmv 1)) (av := [.int x]) (st := []) dX7_judge_1 rfl (k_RX7_305 _) rfl ⟨by decide, by decide⟩ ⟨by decide, by decide⟩ (Or.inl rfl) rfl (Nat.le_of_ble_eq_true rfl) (m_isSheet (x := x)) (fun r1 M1 z => ?_)
  obtain ⟨rfl, rfl⟩ := z
  show zV G (eX7_judge (g_rmv 7)) (0, 0) 4 [(0, .ref 76), (1, .int x), (2, .int y), (3, .int z)] [.int (b2 (inR x 3))] (mm I J t) _
  refine zB_if_ne (tgt := 14) dX7_judge_4 rfl rfl  (fun h4 => ?_) (fun h4 => ?_)
  · obtain ⟨s, hs3, rfl⟩ := (inR_iff (by decide)).mp h4
    have hs : s < 4 := by omega
    have bs := (hw.2.2.2.2.2.1 s hs).1
    have zs40 := (hw.2.2.2.2.2.1 s hs).2
    refine zV_aload_n dX7_judge_14 rfl 0 rfl rfl ?_
    refine zV_getr (q' := 86) 21 dX7_judge_15 rfl fl_RX7_55 rfl (by decide) rfl rfl ?_
    refine zV_iload_n dX7_judge_18 rfl 1 rfl rfl ?_
    refine zV_iald (x := (nI (S.2.2.2.2.2.1 s))) s dX7_judge_19 rfl rfl rfl (by omega) (by decide) ((hM.2.2.2.2.2.2 s hs).1) ?_
    refine zN_if_ne (tgt := 31) dX7_judge_20 rfl rfl (by omega) (fun h20 => ?_) (fun h20 => ?_)
    · refine zV_iload_n dX7_judge_31 rfl 2 rfl rfl ?_
      refine zV_iload_n dX7_judge_32 rfl 3 rfl rfl ?_
      refine zV_callS (E' := eX7_areTwo (g_rmv 2)) (av := [.int y, .int z]) (st := []) dX7_judge_33 rfl (k_RX7_159 _) rfl ⟨by decide, by decide⟩ ⟨by decide, by decide⟩ (Or.inl rfl) rfl (Nat.le_of_ble_eq_true rfl) (m_two (x := y) (y := z)) (fun r33 M33 z => ?_)
      obtain ⟨rfl, rfl⟩ := z
      show zV G (eX7_judge (g_rmv 7)) (0, 0) 36 [(0, .ref 76), (1, .int (nI s)), (2, .int y), (3, .int z)] [.int (b2 (twoP y z))] (mm I J t) _
      refine zB_if_ne (tgt := 46) dX7_judge_36 rfl rfl  (fun h36 => ?_) (fun h36 => ?_)
      · obtain ⟨p, q, hp, hq, hpq, rfl, rfl⟩ := z_two h36
        refine zV_aload_n dX7_judge_46 rfl 0 rfl rfl ?_
        refine zV_getr (q' := 77) 0 dX7_judge_47 rfl fl_RX7_9 rfl (by decide) rfl rfl ?_
        refine zV_aload_n dX7_judge_50 rfl 0 rfl rfl ?_
        refine zV_getr (q' := 79) 2 dX7_judge_51 rfl fl_RX7_16 rfl (by decide) rfl rfl ?_
        refine zV_callS (E' := eX7_copyRow (g_rmv 0)) (av := [.ref 77, .ref 79]) (st := []) dX7_judge_54 rfl (k_RX7_68 _) rfl ⟨by decide, by decide⟩ ⟨by decide, by decide⟩ (Or.inl rfl) rfl (Nat.le_of_ble_eq_true rfl) (m_copyRow rfl rfl (by decide)) (fun r54 M54 z => ?_)
        obtain ⟨I54, rfl, rfl, hX54, hF54⟩ := z
        show zV G (eX7_judge (g_rmv 7)) (0, 0) 57 [(0, .ref 76), (1, .int (nI s)), (2, .int (nI p)), (3, .int (nI q))] [] (mm I54 J t) _
        refine zV_iconst (v := (nI 0)) dX7_judge_57 rfl rfl ?_
        refine zV_istore (lv' := [(0, .ref 76), (1, .int (nI s)), (2, .int (nI p)), (3, .int (nI q)), (4, .int (nI 0))]) dX7_judge_58 rfl (by decide) rfl ?_
        refine z_for (fun c => ∀ (I1 : Nat → Nat → Int32) (τ : aL), (jd p q (S.2.2.2.2.2.2.2 s) S.1 c = some τ ∧ absR I1 77 τ ∧ wfL (B + 4 * c) τ ∧ fr4 I54 I1 ∧ ∀ i, i < c → (jd p q (S.2.2.2.2.2.2.2 s) S.1 (i + 1)).isNone = false) → zV G (eX7_judge (g_rmv 7)) (0, 0) 60 [(0, .ref 76), (1, .int (nI s)), (2, .int (nI p)), (3, .int (nI q)), (4, .int (nI c))] [] (mm I1 J t) _) (S.2.2.2.2.2.2.1 s) ?_ ?_ 0 (Nat.zero_le _) I54 S.1 ⟨rfl, hM.1.mv (hF54 77 (by decide)), hw.1, fr4.rf, fun i h => absurd h (Nat.not_lt_zero _)⟩
        · intro I1 τ h1
          refine zV_iload dX7_judge_60 rfl 4 rfl ?_
          refine zV_aload_n dX7_judge_62 rfl 0 rfl rfl ?_
          refine zV_getr (q' := 87) 22 dX7_judge_63 rfl fl_RX7_58 rfl (by decide) rfl rfl ?_
          refine zV_iload_n dX7_judge_66 rfl 1 rfl rfl ?_
          refine zV_iald (x := (nI (S.2.2.2.2.2.2.1 s))) s dX7_judge_67 rfl rfl rfl (by omega) (by decide) (by rw [h1.2.2.2.1.1 87 (by decide) (by decide), hF54 87 (by decide)]; exact (hM.2.2.2.2.2.2 s hs).2.1) ?_
          refine zN_icmp_ge (tgt := 104) dX7_judge_68 rfl rfl (by omega) (by omega) (fun _ => ?_) (fun z => absurd z (by omega))
          refine zV_aload_n dX7_judge_104 rfl 0 rfl rfl ?_
          refine zV_iload dX7_judge_105 rfl 4 rfl ?_
          refine zV_aload_n dX7_judge_107 rfl 0 rfl rfl ?_
          refine zV_getr (q' := 87) 22 dX7_judge_108 rfl fl_RX7_58 rfl (by decide) rfl rfl ?_
          refine zV_iload_n dX7_judge_111 rfl 1 rfl rfl ?_
          refine zV_iald (x := (nI (S.2.2.2.2.2.2.1 s))) s dX7_judge_112 rfl rfl rfl (by omega) (by decide) (by rw [h1.2.2.2.1.1 87 (by decide) (by decide), hF54 87 (by decide)]; exact (hM.2.2.2.2.2.2 s hs).2.1) ?_
          refine zN_icmp_ne (tgt := 120) dX7_judge_113 rfl rfl (by omega) (by omega) (fun z => absurd z (fun z => z rfl)) (fun _ => ?_)
          refine zV_iconst (v := (nI 0)) dX7_judge_116 rfl rfl ?_
          refine zV_goto (tgt := 124) dX7_judge_117 rfl ?_
          refine zV_callV (E' := eX7_putBack (g_rmv 1)) (av := [.int (nI 0)]) (st := []) (b := 76) dX7_judge_124 rfl (k_RX7_211 _) rfl ⟨by decide, by decide⟩ ⟨by decide, by decide⟩ (Or.inl rfl) rfl (Nat.le_of_ble_eq_true rfl) rfl rfl rfl (m_putBack (x := (nI 0))) (fun r124 M124 z => ?_)
          obtain ⟨I124, rfl, rfl, hX124, hF124⟩ := z
          show zV G (eX7_judge (g_rmv 7)) (0, 0) 127 [(0, .ref 76), (1, .int (nI s)), (2, .int (nI p)), (3, .int (nI q)), (4, .int (nI (S.2.2.2.2.2.2.1 s)))] [.int (nI 0)] (mm I124 J t) _
          exact zV_ireturn dX7_judge_127 rfl rfl (PM.back2 hM hw (by unfold op_judge; rw [if_pos h4, tn_nI (show s < 2 ^ 31 by omega), if_neg h20, if_pos h36, tn_nI (show p < 2 ^ 31 by omega), tn_nI (show q < 2 ^ 31 by omega), jans_end h1.2.2.2.2]) (fun j hj => by rw [hX124 j hj, h1.2.2.2.1.1 79 (by decide) (by decide), hX54 j hj]) (fun i a b _ d => by rw [hF124 i a, h1.2.2.2.1.1 i a d, hF54 i b]) (by rw [hF124 76 (by decide), h1.2.2.2.1.2 3 (by decide) (by decide) (by decide), hF54 76 (by decide)]) (by rw [hF124 76 (by decide), h1.2.2.2.1.2 10 (by decide) (by decide) (by decide), hF54 76 (by decide)]))
        · intro c hc ih
          intro I1 τ h1
          refine zV_iload dX7_judge_60 rfl 4 rfl ?_
          refine zV_aload_n dX7_judge_62 rfl 0 rfl rfl ?_
          refine zV_getr (q' := 87) 22 dX7_judge_63 rfl fl_RX7_58 rfl (by decide) rfl rfl ?_
          refine zV_iload_n dX7_judge_66 rfl 1 rfl rfl ?_
          refine zV_iald (x := (nI (S.2.2.2.2.2.2.1 s))) s dX7_judge_67 rfl rfl rfl (by omega) (by decide) (by rw [h1.2.2.2.1.1 87 (by decide) (by decide), hF54 87 (by decide)]; exact (hM.2.2.2.2.2.2 s hs).2.1) ?_
          refine zN_icmp_ge (tgt := 104) dX7_judge_68 rfl rfl (by omega) (by omega) (fun z => absurd z (by omega)) (fun _ => ?_)
          by_cases h84 : inR (S.2.2.2.2.2.2.2 s c) 999
          · obtain ⟨v, hv, ev⟩ := (inR_iff (by decide)).mp h84
            have tv : tn (S.2.2.2.2.2.2.2 s c) = v := by rw [ev, tn_nI (by omega)]
            cases eo : ld_best τ p q v with
            | none =>
              skip
              refine zV_aload_n dX7_judge_71 rfl 0 rfl rfl ?_
              refine zV_iload_n dX7_judge_72 rfl 2 rfl rfl ?_
              refine zV_iload_n dX7_judge_73 rfl 3 rfl rfl ?_
              refine zV_aload_n dX7_judge_74 rfl 0 rfl rfl ?_
              refine zV_getr (q' := 88) 23 dX7_judge_75 rfl fl_RX7_61 rfl (by decide) rfl rfl ?_
              refine zV_bipush (v := (nI 40)) dX7_judge_78 rfl rfl ?_
              refine zV_iload_n dX7_judge_80 rfl 1 rfl rfl ?_
              refine zA_imul (z := (nI (40 * s))) dX7_judge_81 rfl  (pk_mul _ _) ?_
              refine zV_iload dX7_judge_82 rfl 4 rfl ?_
              refine zA_iadd (z := (nI ((40 * s) + c))) dX7_judge_84 rfl  (nI_add _ _) ?_
              refine zV_iald (x := (nI v)) ((40 * s) + c) dX7_judge_85 rfl rfl rfl (by omega) (by decide) (Eq.trans (by rw [h1.2.2.2.1.1 88 (by decide) (by decide), hF54 88 (by decide)]; exact (hM.2.2.2.2.2.2 s hs).2.2 c (by omega)) ev) ?_
              refine zV_callV (E' := eX7_refuses (g_rmv 6)) (av := [.int (nI p), .int (nI q), .int (nI v)]) (st := []) (b := 76) dX7_judge_86 rfl (k_RX7_198 _) rfl ⟨by decide, by decide⟩ ⟨by decide, by decide⟩ (Or.inl rfl) rfl (Nat.le_of_ble_eq_true rfl) rfl rfl rfl (m_rf3 h1.2.1 h1.2.2.1 hp hq hpq hv eo) (fun r86 M86 z => ?_)
              obtain ⟨I86, rfl, rfl, hG86⟩ := z
              show zV G (eX7_judge (g_rmv 7)) (0, 0) 89 [(0, .ref 76), (1, .int (nI s)), (2, .int (nI p)), (3, .int (nI q)), (4, .int (nI c))] [.int (-1000004)] (mm I86 J t) _
              refine zV_if_ne (tgt := 104) dX7_judge_89 rfl rfl  (fun _ => ?_) (fun z => absurd z (by decide))
              refine zV_aload_n dX7_judge_104 rfl 0 rfl rfl ?_
              refine zV_iload dX7_judge_105 rfl 4 rfl ?_
              refine zV_aload_n dX7_judge_107 rfl 0 rfl rfl ?_
              refine zV_getr (q' := 87) 22 dX7_judge_108 rfl fl_RX7_58 rfl (by decide) rfl rfl ?_
              refine zV_iload_n dX7_judge_111 rfl 1 rfl rfl ?_
              refine zV_iald (x := (nI (S.2.2.2.2.2.2.1 s))) s dX7_judge_112 rfl rfl rfl (by omega) (by decide) (by rw [(hG86.1 87 (by decide)).trans (h1.2.2.2.1.1 87 (by decide) (by decide)), hF54 87 (by decide)]; exact (hM.2.2.2.2.2.2 s hs).2.1) ?_
              refine zN_icmp_ne (tgt := 120) dX7_judge_113 rfl rfl (by omega) (by omega) (fun _ => ?_) (fun z => absurd z (by omega))
              refine zV_iconst (v := (nI 1)) dX7_judge_120 rfl rfl ?_
              refine zV_iload dX7_judge_121 rfl 4 rfl ?_
              refine zA_iadd (z := (nI (1 + c))) dX7_judge_123 rfl  (nI_add _ _) ?_
              refine zV_callV (E' := eX7_putBack (g_rmv 1)) (av := [.int (nI (1 + c))]) (st := []) (b := 76) dX7_judge_124 rfl (k_RX7_211 _) rfl ⟨by decide, by decide⟩ ⟨by decide, by decide⟩ (Or.inl rfl) rfl (Nat.le_of_ble_eq_true rfl) rfl rfl rfl (m_putBack (x := (nI (1 + c)))) (fun r124 M124 z => ?_)
              obtain ⟨I124, rfl, rfl, hX124, hF124⟩ := z
              show zV G (eX7_judge (g_rmv 7)) (0, 0) 127 [(0, .ref 76), (1, .int (nI s)), (2, .int (nI p)), (3, .int (nI q)), (4, .int (nI c))] [.int (nI (1 + c))] (mm I124 J t) _
              exact zV_ireturn dX7_judge_127 rfl rfl (PM.back2 hM hw (by unfold op_judge; rw [if_pos h4, tn_nI (show s < 2 ^ 31 by omega), if_neg h20, if_pos h36, tn_nI (show p < 2 ^ 31 by omega), tn_nI (show q < 2 ^ 31 by omega), jans_at hc h1.2.2.2.2 (jd_none h1.1 h84 tv eo), Nat.add_comm]) (fun j hj => by rw [hX124 j hj, (h1.2.2.2.1.tr3 hG86).1 79 (by decide) (by decide), hX54 j hj]) (fun i a b _ d => by rw [hF124 i a, (h1.2.2.2.1.tr3 hG86).1 i a d, hF54 i b]) (by rw [hF124 76 (by decide), (h1.2.2.2.1.tr3 hG86).2 3 (by decide) (by decide) (by decide), hF54 76 (by decide)]) (by rw [hF124 76 (by decide), (h1.2.2.2.1.tr3 hG86).2 10 (by decide) (by decide) (by decide), hF54 76 (by decide)]))
            | some bb =>
              skip
              refine zV_aload_n dX7_judge_71 rfl 0 rfl rfl ?_
              refine zV_iload_n dX7_judge_72 rfl 2 rfl rfl ?_
              refine zV_iload_n dX7_judge_73 rfl 3 rfl rfl ?_
              refine zV_aload_n dX7_judge_74 rfl 0 rfl rfl ?_
              refine zV_getr (q' := 88) 23 dX7_judge_75 rfl fl_RX7_61 rfl (by decide) rfl rfl ?_
              refine zV_bipush (v := (nI 40)) dX7_judge_78 rfl rfl ?_
              refine zV_iload_n dX7_judge_80 rfl 1 rfl rfl ?_
              refine zA_imul (z := (nI (40 * s))) dX7_judge_81 rfl  (pk_mul _ _) ?_
              refine zV_iload dX7_judge_82 rfl 4 rfl ?_
              refine zA_iadd (z := (nI ((40 * s) + c))) dX7_judge_84 rfl  (nI_add _ _) ?_
              refine zV_iald (x := (nI v)) ((40 * s) + c) dX7_judge_85 rfl rfl rfl (by omega) (by decide) (Eq.trans (by rw [h1.2.2.2.1.1 88 (by decide) (by decide), hF54 88 (by decide)]; exact (hM.2.2.2.2.2.2 s hs).2.2 c (by omega)) ev) ?_
              refine zV_callV (E' := eX7_refuses (g_rmv 6)) (av := [.int (nI p), .int (nI q), .int (nI v)]) (st := []) (b := 76) dX7_judge_86 rfl (k_RX7_198 _) rfl ⟨by decide, by decide⟩ ⟨by decide, by decide⟩ (Or.inl rfl) rfl (Nat.le_of_ble_eq_true rfl) rfl rfl rfl (m_rfF h1.2.1 h1.2.2.1 hp hq hpq hv eo) (fun r86 M86 z => ?_)
              obtain ⟨I86, rfl, rfl, hG86, hg, hk, hc8⟩ := z
              show zV G (eX7_judge (g_rmv 7)) (0, 0) 89 [(0, .ref 76), (1, .int (nI s)), (2, .int (nI p)), (3, .int (nI q)), (4, .int (nI c))] [.int (nI 0)] (mm I86 J t) _
              refine zN_if_ne (tgt := 104) dX7_judge_89 rfl rfl (by decide) (fun z => absurd z (by decide)) (fun _ => ?_)
              refine zV_aload_n dX7_judge_92 rfl 0 rfl rfl ?_
              refine zV_iload_n dX7_judge_93 rfl 2 rfl rfl ?_
              refine zV_iload_n dX7_judge_94 rfl 3 rfl rfl ?_
              refine zV_callV (E' := eX7_bothPaid (g_rmv 6)) (av := [.int (nI p), .int (nI q)]) (st := []) (b := 76) dX7_judge_95 rfl (k_RX7_202 _) rfl ⟨by decide, by decide⟩ ⟨by decide, by decide⟩ (Or.inl rfl) rfl (Nat.le_of_ble_eq_true rfl) rfl rfl rfl (m_bothPaid (p := p) (q := q) (bb := bb) (h1.2.1.mv (hG86.1 77 (by decide))) h1.2.2.1 hp hq (by omega) hg hk hc8) (fun r95 M95 z => ?_)
              obtain ⟨I95, rfl, rfl, hR95, hF95⟩ := z
              show zV G (eX7_judge (g_rmv 7)) (0, 0) 98 [(0, .ref 76), (1, .int (nI s)), (2, .int (nI p)), (3, .int (nI q)), (4, .int (nI c))] [] (mm I95 J t) _
              refine zV_iinc (y := (nI (c + 1))) (lv' := [(0, .ref 76), (1, .int (nI s)), (2, .int (nI p)), (3, .int (nI q)), (4, .int (nI (c + 1)))]) dX7_judge_98 rfl 4 rfl (nI_1 _) (by decide) rfl ?_
              refine zV_goto (tgt := 60) dX7_judge_101 rfl ?_
              exact ih I95 (ld_swap τ p q bb) ⟨jd_some h1.1 h84 tv eo, hR95, wf_swap (B := B + 4 * c) h1.2.2.1 hp hq (by omega), (h1.2.2.2.1.tr3 hG86).trM hF95, fun i hi => by
                  by_cases e : i = c
                  · rw [e, jd_some h1.1 h84 tv eo]; rfl
                  · exact h1.2.2.2.2 i (by omega)⟩
          · skip
            refine zV_aload_n dX7_judge_71 rfl 0 rfl rfl ?_
            refine zV_iload_n dX7_judge_72 rfl 2 rfl rfl ?_
            refine zV_iload_n dX7_judge_73 rfl 3 rfl rfl ?_
            refine zV_aload_n dX7_judge_74 rfl 0 rfl rfl ?_
            refine zV_getr (q' := 88) 23 dX7_judge_75 rfl fl_RX7_61 rfl (by decide) rfl rfl ?_
            refine zV_bipush (v := (nI 40)) dX7_judge_78 rfl rfl ?_
            refine zV_iload_n dX7_judge_80 rfl 1 rfl rfl ?_
            refine zA_imul (z := (nI (40 * s))) dX7_judge_81 rfl  (pk_mul _ _) ?_
            refine zV_iload dX7_judge_82 rfl 4 rfl ?_
            refine zA_iadd (z := (nI ((40 * s) + c))) dX7_judge_84 rfl  (nI_add _ _) ?_
            refine zV_iald (x := (S.2.2.2.2.2.2.2 s c)) ((40 * s) + c) dX7_judge_85 rfl rfl rfl (by omega) (by decide) (by rw [h1.2.2.2.1.1 88 (by decide) (by decide), hF54 88 (by decide)]; exact (hM.2.2.2.2.2.2 s hs).2.2 c (by omega)) ?_
            refine zV_callV (E' := eX7_refuses (g_rmv 6)) (av := [.int (nI p), .int (nI q), .int (S.2.2.2.2.2.2.2 s c)]) (st := []) (b := 76) dX7_judge_86 rfl (k_RX7_198 _) rfl ⟨by decide, by decide⟩ ⟨by decide, by decide⟩ (Or.inl rfl) rfl (Nat.le_of_ble_eq_true rfl) rfl rfl rfl (m_rf1 h36 h84) (fun r86 M86 z => ?_)
            obtain ⟨rfl, rfl⟩ := z
            show zV G (eX7_judge (g_rmv 7)) (0, 0) 89 [(0, .ref 76), (1, .int (nI s)), (2, .int (nI p)), (3, .int (nI q)), (4, .int (nI c))] [.int (-1000001)] (mm I1 J t) _
            refine zV_if_ne (tgt := 104) dX7_judge_89 rfl rfl  (fun _ => ?_) (fun z => absurd z (by decide))
            refine zV_aload_n dX7_judge_104 rfl 0 rfl rfl ?_
            refine zV_iload dX7_judge_105 rfl 4 rfl ?_
            refine zV_aload_n dX7_judge_107 rfl 0 rfl rfl ?_
            refine zV_getr (q' := 87) 22 dX7_judge_108 rfl fl_RX7_58 rfl (by decide) rfl rfl ?_
            refine zV_iload_n dX7_judge_111 rfl 1 rfl rfl ?_
            refine zV_iald (x := (nI (S.2.2.2.2.2.2.1 s))) s dX7_judge_112 rfl rfl rfl (by omega) (by decide) (by rw [h1.2.2.2.1.1 87 (by decide) (by decide), hF54 87 (by decide)]; exact (hM.2.2.2.2.2.2 s hs).2.1) ?_
            refine zN_icmp_ne (tgt := 120) dX7_judge_113 rfl rfl (by omega) (by omega) (fun _ => ?_) (fun z => absurd z (by omega))
            refine zV_iconst (v := (nI 1)) dX7_judge_120 rfl rfl ?_
            refine zV_iload dX7_judge_121 rfl 4 rfl ?_
            refine zA_iadd (z := (nI (1 + c))) dX7_judge_123 rfl  (nI_add _ _) ?_
            refine zV_callV (E' := eX7_putBack (g_rmv 1)) (av := [.int (nI (1 + c))]) (st := []) (b := 76) dX7_judge_124 rfl (k_RX7_211 _) rfl ⟨by decide, by decide⟩ ⟨by decide, by decide⟩ (Or.inl rfl) rfl (Nat.le_of_ble_eq_true rfl) rfl rfl rfl (m_putBack (x := (nI (1 + c)))) (fun r124 M124 z => ?_)
            obtain ⟨I124, rfl, rfl, hX124, hF124⟩ := z
            show zV G (eX7_judge (g_rmv 7)) (0, 0) 127 [(0, .ref 76), (1, .int (nI s)), (2, .int (nI p)), (3, .int (nI q)), (4, .int (nI c))] [.int (nI (1 + c))] (mm I124 J t) _
            exact zV_ireturn dX7_judge_127 rfl rfl (PM.back2 hM hw (by unfold op_judge; rw [if_pos h4, tn_nI (show s < 2 ^ 31 by omega), if_neg h20, if_pos h36, tn_nI (show p < 2 ^ 31 by omega), tn_nI (show q < 2 ^ 31 by omega), jans_at hc h1.2.2.2.2 (jd_bad h1.1 h84), Nat.add_comm]) (fun j hj => by rw [hX124 j hj, h1.2.2.2.1.1 79 (by decide) (by decide), hX54 j hj]) (fun i a b _ d => by rw [hF124 i a, h1.2.2.2.1.1 i a d, hF54 i b]) (by rw [hF124 76 (by decide), h1.2.2.2.1.2 3 (by decide) (by decide) (by decide), hF54 76 (by decide)]) (by rw [hF124 76 (by decide), h1.2.2.2.1.2 10 (by decide) (by decide) (by decide), hF54 76 (by decide)]))
      · refine zV_aload_n dX7_judge_39 rfl 0 rfl rfl ?_
        refine zV_ldc (v := (-1000001)) dX7_judge_40 rfl tw970 ?_
        refine zV_callV (E' := eX7_finding (g_rmv 0)) (av := [.int (-1000001)]) (st := []) (b := 76) dX7_judge_42 rfl (k_RX7_87 _) rfl ⟨by decide, by decide⟩ ⟨by decide, by decide⟩ (Or.inl rfl) rfl (Nat.le_of_ble_eq_true rfl) rfl rfl rfl (m_finding (w := 0) (by decide) (by decide)) (fun r42 M42 z => ?_)
        obtain ⟨rfl, rfl⟩ := z
        show zV G (eX7_judge (g_rmv 7)) (0, 0) 45 [(0, .ref 76), (1, .int (nI s)), (2, .int y), (3, .int z)] [.int (fdg 0)] (mm (mTell I 0) J t) _
        exact zV_ireturn dX7_judge_45 rfl rfl (PM.tell hM (by decide) (by unfold op_judge; rw [if_pos h4, tn_nI (show s < 2 ^ 31 by omega), if_neg h20, if_neg h36]) scM.rf)
    · refine zV_aload_n dX7_judge_23 rfl 0 rfl rfl ?_
      refine zV_ldcw (v := (-1000006)) dX7_judge_24 rfl tw1329 ?_
      refine zV_callV (E' := eX7_finding (g_rmv 0)) (av := [.int (-1000006)]) (st := []) (b := 76) dX7_judge_27 rfl (k_RX7_87 _) rfl ⟨by decide, by decide⟩ ⟨by decide, by decide⟩ (Or.inl rfl) rfl (Nat.le_of_ble_eq_true rfl) rfl rfl rfl (m_finding (w := 5) (by decide) (by decide)) (fun r27 M27 z => ?_)
      obtain ⟨rfl, rfl⟩ := z
      show zV G (eX7_judge (g_rmv 7)) (0, 0) 30 [(0, .ref 76), (1, .int (nI s)), (2, .int y), (3, .int z)] [.int (fdg 5)] (mm (mTell I 5) J t) _
      exact zV_ireturn dX7_judge_30 rfl rfl (PM.tell hM (by decide) (by unfold op_judge; rw [if_pos h4, tn_nI (show s < 2 ^ 31 by omega), if_pos h20]) scM.rf)
  · refine zV_aload_n dX7_judge_7 rfl 0 rfl rfl ?_
    refine zV_ldc (v := (-1000001)) dX7_judge_8 rfl tw970 ?_
    refine zV_callV (E' := eX7_finding (g_rmv 0)) (av := [.int (-1000001)]) (st := []) (b := 76) dX7_judge_10 rfl (k_RX7_87 _) rfl ⟨by decide, by decide⟩ ⟨by decide, by decide⟩ (Or.inl rfl) rfl (Nat.le_of_ble_eq_true rfl) rfl rfl rfl (m_finding (w := 0) (by decide) (by decide)) (fun r10 M10 z => ?_)
    obtain ⟨rfl, rfl⟩ := z
    show zV G (eX7_judge (g_rmv 7)) (0, 0) 13 [(0, .ref 76), (1, .int x), (2, .int y), (3, .int z)] [.int (fdg 0)] (mm (mTell I 0) J t) _
    exact zV_ireturn dX7_judge_13 rfl rfl (PM.tell hM (by decide) (by unfold op_judge; rw [if_neg h4]) scM.rf)
