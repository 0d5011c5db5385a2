/-! TEXTS: tokens of the reference -/
def tm4 (I : Nat → Nat → Int32) (a b c d : Nat) : Prop := I 76 11 = nI a ∧ I 76 12 = nI b ∧ I 76 13 = nI c ∧ I 76 14 = nI d
def tkM (I : Nat → Nat → Int32) (k : aT) : Prop := tm4 I k.2.1 k.2.2.1 (min k.1 3) k.2.2.2
def fr7 (I I' : Nat → Nat → Int32) : Prop := (∀ i, i ≠ 76 → I' i = I i) ∧ ∀ k, (k < 11 ∨ 15 < k) → I' 76 k = I 76 k
theorem fr7.rf {I : Nat → Nat → Int32} : fr7 I I := ⟨fun _ _ => rfl, fun _ _ => rfl⟩
theorem fr7.tr {I I' I'' : Nat → Nat → Int32} (h : fr7 I I') (h' : fr7 I' I'') : fr7 I I'' := ⟨fun i hi => (h'.1 i hi).trans (h.1 i hi), fun k hk => (h'.2 k hk).trans (h.2 k hk)⟩
theorem fr7.up {I I1 : Nat → Nat → Int32} {k : Nat} {v : Int32} (h : fr7 I I1) (hk : 11 ≤ k ∧ k ≤ 15) : fr7 I (up2 I1 76 k v) := ⟨fun i hi => by rw [← h.1 i hi]; funext b; exact up2_ni hi, fun j hj => (up2_nk (by omega)).trans (h.2 j hj)⟩
def rdM (I : Nat → Nat → Int32) (tp : Nat → Nat) (L : Nat) : Prop := I 76 10 = nI L ∧ L ≤ 120 ∧ (∀ j, j < L → I 82 j = nI (tp j)) ∧ ∀ j, tp j < 256
theorem rdM.mv {I I' : Nat → Nat → Int32} {tp : Nat → Nat} {L : Nat} (h : rdM I tp L) (e1 : I' 76 10 = I 76 10) (e2 : I' 82 = I 82) : rdM I' tp L := ⟨e1.trans h.1, h.2.1, by rw [e2]; exact h.2.2.1, h.2.2.2⟩
theorem fr7.use {I I' : Nat → Nat → Int32} {tp : Nat → Nat} {L : Nat} (h : fr7 I I') (hr : rdM I tp L) : rdM I' tp L := hr.mv (h.2 10 (by omega)) (h.1 82 (by decide))
def stM (I I1 : Nat → Nat → Int32) (a b c d w : Nat) : Prop := tm4 I1 a b c d ∧ fr7 I I1 ∧ I1 76 15 = nI w
theorem sm_11 {I I1 : Nat → Nat → Int32} {a b c d w x : Nat} (h : stM I I1 a b c d w) : stM I (up2 I1 76 11 (nI x)) x b c d w := ⟨⟨up2_same _ _ _ _, (up2_nk (by decide)).trans h.1.2.1, (up2_nk (by decide)).trans h.1.2.2.1, (up2_nk (by decide)).trans h.1.2.2.2⟩, h.2.1.up (by decide), (up2_nk (by decide)).trans h.2.2⟩
theorem sm_12 {I I1 : Nat → Nat → Int32} {a b c d w x : Nat} (h : stM I I1 a b c d w) : stM I (up2 I1 76 12 (nI x)) a x c d w := ⟨⟨(up2_nk (by decide)).trans h.1.1, up2_same _ _ _ _, (up2_nk (by decide)).trans h.1.2.2.1, (up2_nk (by decide)).trans h.1.2.2.2⟩, h.2.1.up (by decide), (up2_nk (by decide)).trans h.2.2⟩
theorem sm_13 {I I1 : Nat → Nat → Int32} {a b c d w x : Nat} (h : stM I I1 a b c d w) : stM I (up2 I1 76 13 (nI x)) a b x d w := ⟨⟨(up2_nk (by decide)).trans h.1.1, (up2_nk (by decide)).trans h.1.2.1, up2_same _ _ _ _, (up2_nk (by decide)).trans h.1.2.2.2⟩, h.2.1.up (by decide), (up2_nk (by decide)).trans h.2.2⟩
theorem sm_14 {I I1 : Nat → Nat → Int32} {a b c d w x : Nat} (h : stM I I1 a b c d w) : stM I (up2 I1 76 14 (nI x)) a b c x w := ⟨⟨(up2_nk (by decide)).trans h.1.1, (up2_nk (by decide)).trans h.1.2.1, (up2_nk (by decide)).trans h.1.2.2.1, up2_same _ _ _ _⟩, h.2.1.up (by decide), (up2_nk (by decide)).trans h.2.2⟩
theorem lt_w {x : Nat} (hx : x < 256) : (nI 97 ≤ nI x ∧ nI x ≤ nI 122) ↔ isLt x = true := by
  rw [nI_leI (by decide) (by omega), nI_leI (by omega) (by decide)]
  unfold isLt
  rw [decide_eq_true_iff]
theorem dg_w {x : Nat} (hx : x < 256) : (nI 48 ≤ nI x ∧ nI x ≤ nI 57) ↔ isDg x = true := by
  rw [nI_leI (by decide) (by omega), nI_leI (by omega) (by decide)]
  unfold isDg
  rw [decide_eq_true_iff]
theorem m_wLt {G : mG} {I : Nat → Nat → Int32} {J : Nat → Nat → Int64} {t x : Nat} (hx : x < 256) : zC G yX7_within (eX7_within (g_rmv 0)) [.int (nI x), .int (nI 97), .int (nI 122)] (mm I J t) (fun r M => r = some (.int (b2 (isLt x = true))) ∧ M = mm I J t) := zC_mono (fun r M q => ⟨q.1.trans (congrArg (fun x => some (Value.int x)) (b2_congr (lt_w hx))), q.2⟩) m_within
theorem m_wDg {G : mG} {I : Nat → Nat → Int32} {J : Nat → Nat → Int64} {t x : Nat} (hx : x < 256) : zC G yX7_within (eX7_within (g_rmv 0)) [.int (nI x), .int (nI 48), .int (nI 57)] (mm I J t) (fun r M => r = some (.int (b2 (isDg x = true))) ∧ M = mm I J t) := zC_mono (fun r M q => ⟨q.1.trans (congrArg (fun x => some (Value.int x)) (b2_congr (dg_w hx))), q.2⟩) m_within
set_option maxRecDepth 100000 in
theorem m_byteAt1 {G : mG} {I : Nat → Nat → Int32} {J : Nat → Nat → Int64} {t : Nat} {tp : Nat → Nat} {L i : Nat} (hr : rdM I tp L) (hi : i < L) : zC G yX7_byteAt (eX7_byteAt (g_rmv 0)) [.ref 76, .int (nI i)] (mm I J t) (fun r M => r = some (.int (nI (tp i))) ∧ M = mm I J t) := by
  refine zC_of (by decide +kernel) rfl (by decide) (Nat.le_of_ble_eq_true rfl) ?_
  have hL := hr.2.1
  show zV G (eX7_byteAt (g_rmv 0)) (0, 0) 0 [(0, .ref 76), (1, .int (nI i))] [] (mm I J t) _
  refine zV_iload_n dX7_byteAt_0 rfl 1 rfl rfl ?_
  refine zV_aload_n dX7_byteAt_1 rfl 0 rfl rfl ?_
  refine zV_getI (x := (nI L)) 10 dX7_byteAt_2 rfl fl_RX7_227 rfl (by decide) rfl hr.1 ?_
  refine zN_icmp_ge (tgt := 17) dX7_byteAt_5 rfl rfl (by omega) (by omega) (fun z => absurd z (by omega)) (fun _ => ?_)
  refine zV_aload_n dX7_byteAt_8 rfl 0 rfl rfl ?_
  refine zV_getr (q' := 82) 9 dX7_byteAt_9 rfl fl_RX7_26 rfl (by decide) rfl rfl ?_
  refine zV_iload_n dX7_byteAt_12 rfl 1 rfl rfl ?_
  refine zV_iald (x := (nI (tp i))) i dX7_byteAt_13 rfl rfl rfl (by omega) (by decide) (hr.2.2.1 i (by omega)) ?_
  refine zV_goto (tgt := 18) dX7_byteAt_14 rfl ?_
  exact zV_ireturn dX7_byteAt_18 rfl rfl (⟨rfl, rfl⟩)

set_option maxRecDepth 100000 in
theorem m_byteAt0 {G : mG} {I : Nat → Nat → Int32} {J : Nat → Nat → Int64} {t : Nat} {tp : Nat → Nat} {L i : Nat} (hr : rdM I tp L) (hi : L ≤ i) (hi2 : i < 2 ^ 31) : zC G yX7_byteAt (eX7_byteAt (g_rmv 0)) [.ref 76, .int (nI i)] (mm I J t) (fun r M => r = some (.int (-1)) ∧ M = mm I J t) := by
  refine zC_of (by decide +kernel) rfl (by decide) (Nat.le_of_ble_eq_true rfl) ?_
  have hL := hr.2.1
  show zV G (eX7_byteAt (g_rmv 0)) (0, 0) 0 [(0, .ref 76), (1, .int (nI i))] [] (mm I J t) _
  refine zV_iload_n dX7_byteAt_0 rfl 1 rfl rfl ?_
  refine zV_aload_n dX7_byteAt_1 rfl 0 rfl rfl ?_
  refine zV_getI (x := (nI L)) 10 dX7_byteAt_2 rfl fl_RX7_227 rfl (by decide) rfl hr.1 ?_
  refine zN_icmp_ge (tgt := 17) dX7_byteAt_5 rfl rfl (by omega) (by omega) (fun _ => ?_) (fun z => absurd z (by omega))
  refine zV_iconst (v := (-1)) dX7_byteAt_17 rfl rfl ?_
  exact zV_ireturn dX7_byteAt_18 rfl rfl (⟨rfl, rfl⟩)

set_option maxRecDepth 100000 in
theorem m_next {G : mG} {I : Nat → Nat → Int32} {J : Nat → Nat → Int64} {t : Nat} {tp : Nat → Nat} {L b w : Nat} (hr : rdM I tp L) (hb : b ≤ L) (h0 : I 76 12 = nI b) (hw : I 76 15 = nI w) : zC G yX7_next (eX7_next (g_rmv 1)) [.ref 76] (mm I J t) (fun r M => ∃ I', r = none ∧ M = mm I' J t ∧ tkM I' (nxt tp L b) ∧ fr7 I I' ∧ I' 76 15 = nI w) := by
  refine zC_of (by decide +kernel) rfl (by decide) (Nat.le_of_ble_eq_true rfl) ?_
  have hL := hr.2.1
  have h256 := hr.2.2.2
  obtain ⟨a0, -, e1⟩ := wb_of32 (I 76 11)
  obtain ⟨c0, -, e3⟩ := wb_of32 (I 76 13)
  obtain ⟨d0, -, e4⟩ := wb_of32 (I 76 14)
  have h00 : stM I I a0 b c0 d0 w := ⟨⟨e1, h0, e3, e4⟩, fr7.rf, hw⟩
  show zV G (eX7_next (g_rmv 1)) (0, 0) 0 [(0, .ref 76)] [] (mm I J t) _
  refine zV_aload_n dX7_next_0 rfl 0 rfl rfl ?_
  refine zV_aload_n dX7_next_1 rfl 0 rfl rfl ?_
  refine zV_getI (x := (nI b)) 12 dX7_next_2 rfl fl_RX7_230 rfl (by decide) rfl h00.1.2.1 ?_
  refine zV_puti 11 dX7_next_5 rfl fl_RX7_233 rfl (by decide) rfl rfl rfl ?_
  have k34 : ∀ I1, stM I I1 (scn isSp tp L b) b c0 d0 w → zV G (eX7_next (g_rmv 1)) (0, 0) 34 [(0, .ref 76)] [] (mm I1 J t) (fun r M => ∃ I', r = none ∧ M = mm I' J t ∧ tkM I' (nxt tp L b) ∧ fr7 I I' ∧ I' 76 15 = nI w) := by
    intro I1 h1
    have hse := scn_le (p := isSp) (tp := tp) hb
    by_cases hlt : (scn isSp tp L b) < L
    · skip
      refine zV_aload_n dX7_next_34 rfl 0 rfl rfl ?_
      refine zV_aload_n dX7_next_35 rfl 0 rfl rfl ?_
      refine zV_getI (x := (nI (scn isSp tp L b))) 11 dX7_next_36 rfl fl_RX7_233 rfl (by decide) rfl h1.1.1 ?_
      refine zV_callV (E' := eX7_byteAt (g_rmv 0)) (av := [.int (nI (scn isSp tp L b))]) (st := []) (b := 76) dX7_next_39 rfl (k_RX7_236 _) rfl ⟨by decide, by decide⟩ ⟨by decide, by decide⟩ (Or.inl rfl) rfl (Nat.le_of_ble_eq_true rfl) rfl rfl rfl (m_byteAt1 (i := (scn isSp tp L b)) (h1.2.1.use hr) (by omega)) (fun r39 M39 z => ?_)
      obtain ⟨rfl, rfl⟩ := z
      show zV G (eX7_next (g_rmv 1)) (0, 0) 42 [(0, .ref 76)] [.int (nI (tp (scn isSp tp L b)))] (mm I1 J t) _
      refine zV_istore_n (lv' := [(0, .ref 76), (1, .int (nI (tp (scn isSp tp L b))))]) dX7_next_42 rfl rfl (by decide) rfl ?_
      refine zV_aload_n dX7_next_43 rfl 0 rfl rfl ?_
      refine zV_aload_n dX7_next_44 rfl 0 rfl rfl ?_
      refine zV_getI (x := (nI (scn isSp tp L b))) 11 dX7_next_45 rfl fl_RX7_233 rfl (by decide) rfl h1.1.1 ?_
      refine zV_puti 12 dX7_next_48 rfl fl_RX7_230 rfl (by decide) rfl rfl rfl ?_
      refine zV_aload_n dX7_next_51 rfl 0 rfl rfl ?_
      refine zV_iconst (v := (nI 0)) dX7_next_52 rfl rfl ?_
      refine zV_puti 14 dX7_next_53 rfl fl_RX7_239 rfl (by decide) rfl rfl rfl ?_
      refine zV_iload_n dX7_next_56 rfl 1 rfl rfl ?_
      refine zN_if_ge (tgt := 68) dX7_next_57 rfl (Nat.lt_trans (h256 _) (by decide)) rfl ?_
      refine zV_iload_n dX7_next_68 rfl 1 rfl rfl ?_
      refine zV_bipush (v := (nI 97)) dX7_next_69 rfl rfl ?_
      refine zV_bipush (v := (nI 122)) dX7_next_71 rfl rfl ?_
      refine zV_callS (E' := eX7_within (g_rmv 0)) (av := [.int (nI (tp (scn isSp tp L b))), .int (nI 97), .int (nI 122)]) (st := []) dX7_next_73 rfl (k_RX7_72 _) rfl ⟨by decide, by decide⟩ ⟨by decide, by decide⟩ (Or.inl rfl) rfl (Nat.le_of_ble_eq_true rfl) (m_wLt (x := (tp (scn isSp tp L b))) (h256 _)) (fun r73 M73 z => ?_)
      obtain ⟨rfl, rfl⟩ := z
      show zV G (eX7_next (g_rmv 1)) (0, 0) 76 [(0, .ref 76), (1, .int (nI (tp (scn isSp tp L b))))] [.int (b2 (isLt (tp (scn isSp tp L b)) = true))] (mm (up2 (up2 I1 76 12 (nI (scn isSp tp L b))) 76 14 (nI 0)) J t) _
      refine zB_if_eq (tgt := 115) dX7_next_76 rfl rfl  (fun h76 => ?_) (fun h76 => ?_)
      · refine zV_iload_n dX7_next_115 rfl 1 rfl rfl ?_
        refine zV_bipush (v := (nI 48)) dX7_next_116 rfl rfl ?_
        refine zV_bipush (v := (nI 57)) dX7_next_118 rfl rfl ?_
        refine zV_callS (E' := eX7_within (g_rmv 0)) (av := [.int (nI (tp (scn isSp tp L b))), .int (nI 48), .int (nI 57)]) (st := []) dX7_next_120 rfl (k_RX7_72 _) rfl ⟨by decide, by decide⟩ ⟨by decide, by decide⟩ (Or.inl rfl) rfl (Nat.le_of_ble_eq_true rfl) (m_wDg (x := (tp (scn isSp tp L b))) (h256 _)) (fun r120 M120 z => ?_)
        obtain ⟨rfl, rfl⟩ := z
        show zV G (eX7_next (g_rmv 1)) (0, 0) 123 [(0, .ref 76), (1, .int (nI (tp (scn isSp tp L b))))] [.int (b2 (isDg (tp (scn isSp tp L b)) = true))] (mm (up2 (up2 I1 76 12 (nI (scn isSp tp L b))) 76 14 (nI 0)) J t) _
        refine zB_if_eq (tgt := 191) dX7_next_123 rfl rfl  (fun h123 => ?_) (fun h123 => ?_)
        · refine zV_aload_n dX7_next_191 rfl 0 rfl rfl ?_
          refine zV_iconst (v := (nI 3)) dX7_next_192 rfl rfl ?_
          refine zV_puti 13 dX7_next_193 rfl fl_RX7_242 rfl (by decide) rfl rfl rfl ?_
          refine zV_aload_n dX7_next_196 rfl 0 rfl rfl ?_
          refine zV_dup dX7_next_197 rfl rfl ?_
          refine zV_getI (x := (nI (scn isSp tp L b))) 12 dX7_next_198 rfl fl_RX7_230 rfl (by decide) rfl ((sm_13 (x := 3) (sm_14 (x := 0) (sm_12 (x := (scn isSp tp L b)) h1))).1.2.1) ?_
          refine zV_iconst (v := (nI 1)) dX7_next_201 rfl rfl ?_
          refine zA_iadd (z := (nI ((scn isSp tp L b) + 1))) dX7_next_202 rfl  (nI_1 _) ?_
          refine zV_puti 12 dX7_next_203 rfl fl_RX7_230 rfl (by decide) rfl rfl rfl ?_
          exact zV_return dX7_next_206 rfl (⟨_, rfl, rfl, by rw [nxt_sign (by omega) h76 h123]; unfold tkM; rw [show min (if tp (scn isSp tp L b) = 59 then 3 else 4, (scn isSp tp L b), (scn isSp tp L b) + 1, 0).1 3 = 3 from by show min (if tp (scn isSp tp L b) = 59 then 3 else 4) 3 = 3; split <;> rfl]; exact (sm_12 (x := ((scn isSp tp L b) + 1)) (sm_13 (x := 3) (sm_14 (x := 0) (sm_12 (x := (scn isSp tp L b)) h1)))).1, (sm_12 (x := ((scn isSp tp L b) + 1)) (sm_13 (x := 3) (sm_14 (x := 0) (sm_12 (x := (scn isSp tp L b)) h1)))).2.1, (sm_12 (x := ((scn isSp tp L b) + 1)) (sm_13 (x := 3) (sm_14 (x := 0) (sm_12 (x := (scn isSp tp L b)) h1)))).2.2⟩)
        · refine zV_aload_n dX7_next_126 rfl 0 rfl rfl ?_
          refine zV_iconst (v := (nI 2)) dX7_next_127 rfl rfl ?_
          refine zV_puti 13 dX7_next_128 rfl fl_RX7_242 rfl (by decide) rfl rfl rfl ?_
          refine z_for (fun i => ∀ I1, stM I I1 (scn isSp tp L b) ((scn isSp tp L b) + i) 2 (vlu tp (scn isSp tp L b) i) w → (∀ j, j < i → isDg (tp ((scn isSp tp L b) + j)) = true) → zV G (eX7_next (g_rmv 1)) (0, 0) 131 [(0, .ref 76), (1, .int (nI (tp (scn isSp tp L b))))] [] (mm I1 J t) _) (L - (scn isSp tp L b)) ?_ ?_ 0 (Nat.zero_le _) (up2 (up2 (up2 I1 76 12 (nI (scn isSp tp L b))) 76 14 (nI 0)) 76 13 (nI 2)) (sm_13 (x := 2) (sm_14 (x := 0) (sm_12 (x := (scn isSp tp L b)) h1))) (fun j h => absurd h (Nat.not_lt_zero _))
          · intro I2 h2 hno
            have vb := vlu_le tp (scn isSp tp L b) (L - (scn isSp tp L b))
            refine zV_aload_n dX7_next_131 rfl 0 rfl rfl ?_
            refine zV_aload_n dX7_next_132 rfl 0 rfl rfl ?_
            refine zV_getI (x := (nI ((scn isSp tp L b) + (L - (scn isSp tp L b))))) 12 dX7_next_133 rfl fl_RX7_230 rfl (by decide) rfl h2.1.2.1 ?_
            refine zV_callV (E' := eX7_byteAt (g_rmv 0)) (av := [.int (nI ((scn isSp tp L b) + (L - (scn isSp tp L b))))]) (st := []) (b := 76) dX7_next_136 rfl (k_RX7_236 _) rfl ⟨by decide, by decide⟩ ⟨by decide, by decide⟩ (Or.inl rfl) rfl (Nat.le_of_ble_eq_true rfl) rfl rfl rfl (m_byteAt0 (i := ((scn isSp tp L b) + (L - (scn isSp tp L b)))) (h2.2.1.use hr) (by omega) (by omega)) (fun r136 M136 z => ?_)
            obtain ⟨rfl, rfl⟩ := z
            show zV G (eX7_next (g_rmv 1)) (0, 0) 139 [(0, .ref 76), (1, .int (nI (tp (scn isSp tp L b))))] [.int (-1)] (mm I2 J t) _
            refine zV_bipush (v := (nI 48)) dX7_next_139 rfl rfl ?_
            refine zV_bipush (v := (nI 57)) dX7_next_141 rfl rfl ?_
            refine zV_callS (E' := eX7_within (g_rmv 0)) (av := [.int (-1), .int (nI 48), .int (nI 57)]) (st := []) dX7_next_143 rfl (k_RX7_72 _) rfl ⟨by decide, by decide⟩ ⟨by decide, by decide⟩ (Or.inl rfl) rfl (Nat.le_of_ble_eq_true rfl) (m_within (x := (-1)) (y := (nI 48)) (z := (nI 57))) (fun r143 M143 z => ?_)
            obtain ⟨rfl, rfl⟩ := z
            show zV G (eX7_next (g_rmv 1)) (0, 0) 146 [(0, .ref 76), (1, .int (nI (tp (scn isSp tp L b))))] [.int (b2 ((nI 48) ≤ (-1) ∧ (-1) ≤ (nI 57)))] (mm I2 J t) _
            refine zB_if_eq (tgt := 206) dX7_next_146 rfl rfl  (fun _ => ?_) (fun z => absurd z (by decide))
            exact zV_return dX7_next_206 rfl (⟨_, rfl, rfl, by rw [nxt_num (by omega) h76 h123, scn_end (p := isDg) (by omega) hno, show (scn isSp tp L b) + (L - (scn isSp tp L b)) - (scn isSp tp L b) = (L - (scn isSp tp L b)) by omega]; exact h2.1, h2.2.1, h2.2.2⟩)
          · intro i hi ih I2 h2 hno
            have vb := vlu_le tp (scn isSp tp L b) i
            refine zV_aload_n dX7_next_131 rfl 0 rfl rfl ?_
            refine zV_aload_n dX7_next_132 rfl 0 rfl rfl ?_
            refine zV_getI (x := (nI ((scn isSp tp L b) + i))) 12 dX7_next_133 rfl fl_RX7_230 rfl (by decide) rfl h2.1.2.1 ?_
            refine zV_callV (E' := eX7_byteAt (g_rmv 0)) (av := [.int (nI ((scn isSp tp L b) + i))]) (st := []) (b := 76) dX7_next_136 rfl (k_RX7_236 _) rfl ⟨by decide, by decide⟩ ⟨by decide, by decide⟩ (Or.inl rfl) rfl (Nat.le_of_ble_eq_true rfl) rfl rfl rfl (m_byteAt1 (i := ((scn isSp tp L b) + i)) (h2.2.1.use hr) (by omega)) (fun r136 M136 z => ?_)
            obtain ⟨rfl, rfl⟩ := z
            show zV G (eX7_next (g_rmv 1)) (0, 0) 139 [(0, .ref 76), (1, .int (nI (tp (scn isSp tp L b))))] [.int (nI (tp ((scn isSp tp L b) + i)))] (mm I2 J t) _
            refine zV_bipush (v := (nI 48)) dX7_next_139 rfl rfl ?_
            refine zV_bipush (v := (nI 57)) dX7_next_141 rfl rfl ?_
            refine zV_callS (E' := eX7_within (g_rmv 0)) (av := [.int (nI (tp ((scn isSp tp L b) + i))), .int (nI 48), .int (nI 57)]) (st := []) dX7_next_143 rfl (k_RX7_72 _) rfl ⟨by decide, by decide⟩ ⟨by decide, by decide⟩ (Or.inl rfl) rfl (Nat.le_of_ble_eq_true rfl) (m_wDg (x := (tp ((scn isSp tp L b) + i))) (h256 _)) (fun r143 M143 z => ?_)
            obtain ⟨rfl, rfl⟩ := z
            show zV G (eX7_next (g_rmv 1)) (0, 0) 146 [(0, .ref 76), (1, .int (nI (tp (scn isSp tp L b))))] [.int (b2 (isDg (tp ((scn isSp tp L b) + i)) = true))] (mm I2 J t) _
            refine zB_if_eq (tgt := 206) dX7_next_146 rfl rfl  (fun h146 => ?_) (fun h146 => ?_)
            · exact zV_return dX7_next_206 rfl (⟨_, rfl, rfl, by rw [nxt_num (by omega) h76 h123, scn_at (p := isDg) hi hno h146, show (scn isSp tp L b) + i - (scn isSp tp L b) = i by omega]; exact h2.1, h2.2.1, h2.2.2⟩)
            · refine zV_aload_n dX7_next_149 rfl 0 rfl rfl ?_
              refine zV_sipush (v := (nI 1000)) dX7_next_150 rfl rfl ?_
              refine zV_bipush (v := (nI 10)) dX7_next_153 rfl rfl ?_
              refine zV_aload_n dX7_next_155 rfl 0 rfl rfl ?_
              refine zV_getI (x := (nI (vlu tp (scn isSp tp L b) i))) 14 dX7_next_156 rfl fl_RX7_239 rfl (by decide) rfl h2.1.2.2.2 ?_
              refine zA_imul (z := (nI (vlu tp (scn isSp tp L b) i * 10))) dX7_next_159 rfl  ((pk_mul _ _).trans (by rw [Nat.mul_comm])) ?_
              refine zV_aload_n dX7_next_160 rfl 0 rfl rfl ?_
              refine zV_aload_n dX7_next_161 rfl 0 rfl rfl ?_
              refine zV_getI (x := (nI ((scn isSp tp L b) + i))) 12 dX7_next_162 rfl fl_RX7_230 rfl (by decide) rfl h2.1.2.1 ?_
              refine zV_callV (E' := eX7_byteAt (g_rmv 0)) (av := [.int (nI ((scn isSp tp L b) + i))]) (st := [.int (nI (vlu tp (scn isSp tp L b) i * 10)), .int (nI 1000), .ref 76]) (b := 76) dX7_next_165 rfl (k_RX7_236 _) rfl ⟨by decide, by decide⟩ ⟨by decide, by decide⟩ (Or.inl rfl) rfl (Nat.le_of_ble_eq_true rfl) rfl rfl rfl (m_byteAt1 (i := ((scn isSp tp L b) + i)) (h2.2.1.use hr) (by omega)) (fun r165 M165 z => ?_)
              obtain ⟨rfl, rfl⟩ := z
              show zV G (eX7_next (g_rmv 1)) (0, 0) 168 [(0, .ref 76), (1, .int (nI (tp (scn isSp tp L b))))] [.int (nI (tp ((scn isSp tp L b) + i))), .int (nI (vlu tp (scn isSp tp L b) i * 10)), .int (nI 1000), .ref 76] (mm I2 J t) _
              refine zA_iadd (z := (nI (vlu tp (scn isSp tp L b) i * 10 + tp ((scn isSp tp L b) + i)))) dX7_next_168 rfl  (nI_add _ _) ?_
              refine zV_bipush (v := (nI 48)) dX7_next_169 rfl rfl ?_
              refine zA_isub (z := (nI (vlu tp (scn isSp tp L b) i * 10 + tp ((scn isSp tp L b) + i) - 48))) dX7_next_171 rfl  (pk_sub (by have := (of_decide_eq_true h146).1; omega)) ?_
              refine zV_callS (E' := eJ9_min_7cf53 (g_rmv 0)) (av := [.int (nI 1000), .int (nI (vlu tp (scn isSp tp L b) i * 10 + tp ((scn isSp tp L b) + i) - 48))]) (st := [.ref 76]) dX7_next_172 rfl (k_RX7_205 _) rfl ⟨by decide, by decide⟩ ⟨by decide, by decide⟩ (Or.inl rfl) rfl (Nat.le_of_ble_eq_true rfl) (c_minn (a := 1000) (b := (vlu tp (scn isSp tp L b) i * 10 + tp ((scn isSp tp L b) + i) - 48)) (by omega) (by have := h256 ((scn isSp tp L b) + i); omega)) (fun r172 M172 z => ?_)
              obtain ⟨rfl, rfl⟩ := z
              show zV G (eX7_next (g_rmv 1)) (0, 0) 175 [(0, .ref 76), (1, .int (nI (tp (scn isSp tp L b))))] [.int (nI (vlu tp (scn isSp tp L b) (i + 1))), .ref 76] (mm I2 J t) _
              refine zV_puti 14 dX7_next_175 rfl fl_RX7_239 rfl (by decide) rfl rfl rfl ?_
              refine zV_aload_n dX7_next_178 rfl 0 rfl rfl ?_
              refine zV_dup dX7_next_179 rfl rfl ?_
              refine zV_getI (x := (nI ((scn isSp tp L b) + i))) 12 dX7_next_180 rfl fl_RX7_230 rfl (by decide) rfl ((sm_14 (x := (vlu tp (scn isSp tp L b) (i + 1))) h2).1.2.1) ?_
              refine zV_iconst (v := (nI 1)) dX7_next_183 rfl rfl ?_
              refine zA_iadd (z := (nI ((scn isSp tp L b) + (i + 1)))) dX7_next_184 rfl  (nI_1 _) ?_
              refine zV_puti 12 dX7_next_185 rfl fl_RX7_230 rfl (by decide) rfl rfl rfl ?_
              refine zV_goto (tgt := 131) dX7_next_188 rfl ?_
              exact ih (up2 (up2 I2 76 14 (nI (vlu tp (scn isSp tp L b) (i + 1)))) 76 12 (nI ((scn isSp tp L b) + (i + 1)))) (sm_12 (x := ((scn isSp tp L b) + (i + 1))) (sm_14 (x := (vlu tp (scn isSp tp L b) (i + 1))) h2)) (fun j hj => by (by_cases e : j = i); (· subst e; exact h146); (· exact hno j (by omega)))
      · refine zV_aload_n dX7_next_79 rfl 0 rfl rfl ?_
        refine zV_iconst (v := (nI 1)) dX7_next_80 rfl rfl ?_
        refine zV_puti 13 dX7_next_81 rfl fl_RX7_242 rfl (by decide) rfl rfl rfl ?_
        refine z_for (fun i => ∀ I1, stM I I1 (scn isSp tp L b) ((scn isSp tp L b) + i) 1 0 w → (∀ j, j < i → isLt (tp ((scn isSp tp L b) + j)) = true) → zV G (eX7_next (g_rmv 1)) (0, 0) 84 [(0, .ref 76), (1, .int (nI (tp (scn isSp tp L b))))] [] (mm I1 J t) _) (L - (scn isSp tp L b)) ?_ ?_ 0 (Nat.zero_le _) (up2 (up2 (up2 I1 76 12 (nI (scn isSp tp L b))) 76 14 (nI 0)) 76 13 (nI 1)) (sm_13 (x := 1) (sm_14 (x := 0) (sm_12 (x := (scn isSp tp L b)) h1))) (fun j h => absurd h (Nat.not_lt_zero _))
        · intro I2 h2 hno
          refine zV_aload_n dX7_next_84 rfl 0 rfl rfl ?_
          refine zV_aload_n dX7_next_85 rfl 0 rfl rfl ?_
          refine zV_getI (x := (nI ((scn isSp tp L b) + (L - (scn isSp tp L b))))) 12 dX7_next_86 rfl fl_RX7_230 rfl (by decide) rfl h2.1.2.1 ?_
          refine zV_callV (E' := eX7_byteAt (g_rmv 0)) (av := [.int (nI ((scn isSp tp L b) + (L - (scn isSp tp L b))))]) (st := []) (b := 76) dX7_next_89 rfl (k_RX7_236 _) rfl ⟨by decide, by decide⟩ ⟨by decide, by decide⟩ (Or.inl rfl) rfl (Nat.le_of_ble_eq_true rfl) rfl rfl rfl (m_byteAt0 (i := ((scn isSp tp L b) + (L - (scn isSp tp L b)))) (h2.2.1.use hr) (by omega) (by omega)) (fun r89 M89 z => ?_)
          obtain ⟨rfl, rfl⟩ := z
          show zV G (eX7_next (g_rmv 1)) (0, 0) 92 [(0, .ref 76), (1, .int (nI (tp (scn isSp tp L b))))] [.int (-1)] (mm I2 J t) _
          refine zV_bipush (v := (nI 97)) dX7_next_92 rfl rfl ?_
          refine zV_bipush (v := (nI 122)) dX7_next_94 rfl rfl ?_
          refine zV_callS (E' := eX7_within (g_rmv 0)) (av := [.int (-1), .int (nI 97), .int (nI 122)]) (st := []) dX7_next_96 rfl (k_RX7_72 _) rfl ⟨by decide, by decide⟩ ⟨by decide, by decide⟩ (Or.inl rfl) rfl (Nat.le_of_ble_eq_true rfl) (m_within (x := (-1)) (y := (nI 97)) (z := (nI 122))) (fun r96 M96 z => ?_)
          obtain ⟨rfl, rfl⟩ := z
          show zV G (eX7_next (g_rmv 1)) (0, 0) 99 [(0, .ref 76), (1, .int (nI (tp (scn isSp tp L b))))] [.int (b2 ((nI 97) ≤ (-1) ∧ (-1) ≤ (nI 122)))] (mm I2 J t) _
          refine zB_if_eq (tgt := 206) dX7_next_99 rfl rfl  (fun _ => ?_) (fun z => absurd z (by decide))
          exact zV_return dX7_next_206 rfl (⟨_, rfl, rfl, by rw [nxt_word (by omega) h76, scn_end (p := isLt) (by omega) hno]; exact h2.1, h2.2.1, h2.2.2⟩)
        · intro i hi ih I2 h2 hno
          refine zV_aload_n dX7_next_84 rfl 0 rfl rfl ?_
          refine zV_aload_n dX7_next_85 rfl 0 rfl rfl ?_
          refine zV_getI (x := (nI ((scn isSp tp L b) + i))) 12 dX7_next_86 rfl fl_RX7_230 rfl (by decide) rfl h2.1.2.1 ?_
          refine zV_callV (E' := eX7_byteAt (g_rmv 0)) (av := [.int (nI ((scn isSp tp L b) + i))]) (st := []) (b := 76) dX7_next_89 rfl (k_RX7_236 _) rfl ⟨by decide, by decide⟩ ⟨by decide, by decide⟩ (Or.inl rfl) rfl (Nat.le_of_ble_eq_true rfl) rfl rfl rfl (m_byteAt1 (i := ((scn isSp tp L b) + i)) (h2.2.1.use hr) (by omega)) (fun r89 M89 z => ?_)
          obtain ⟨rfl, rfl⟩ := z
          show zV G (eX7_next (g_rmv 1)) (0, 0) 92 [(0, .ref 76), (1, .int (nI (tp (scn isSp tp L b))))] [.int (nI (tp ((scn isSp tp L b) + i)))] (mm I2 J t) _
          refine zV_bipush (v := (nI 97)) dX7_next_92 rfl rfl ?_
          refine zV_bipush (v := (nI 122)) dX7_next_94 rfl rfl ?_
          refine zV_callS (E' := eX7_within (g_rmv 0)) (av := [.int (nI (tp ((scn isSp tp L b) + i))), .int (nI 97), .int (nI 122)]) (st := []) dX7_next_96 rfl (k_RX7_72 _) rfl ⟨by decide, by decide⟩ ⟨by decide, by decide⟩ (Or.inl rfl) rfl (Nat.le_of_ble_eq_true rfl) (m_wLt (x := (tp ((scn isSp tp L b) + i))) (h256 _)) (fun r96 M96 z => ?_)
          obtain ⟨rfl, rfl⟩ := z
          show zV G (eX7_next (g_rmv 1)) (0, 0) 99 [(0, .ref 76), (1, .int (nI (tp (scn isSp tp L b))))] [.int (b2 (isLt (tp ((scn isSp tp L b) + i)) = true))] (mm I2 J t) _
          refine zB_if_eq (tgt := 206) dX7_next_99 rfl rfl  (fun h99 => ?_) (fun h99 => ?_)
          · exact zV_return dX7_next_206 rfl (⟨_, rfl, rfl, by rw [nxt_word (by omega) h76, scn_at (p := isLt) hi hno h99]; exact h2.1, h2.2.1, h2.2.2⟩)
          · refine zV_aload_n dX7_next_102 rfl 0 rfl rfl ?_
            refine zV_dup dX7_next_103 rfl rfl ?_
            refine zV_getI (x := (nI ((scn isSp tp L b) + i))) 12 dX7_next_104 rfl fl_RX7_230 rfl (by decide) rfl h2.1.2.1 ?_
            refine zV_iconst (v := (nI 1)) dX7_next_107 rfl rfl ?_
            refine zA_iadd (z := (nI ((scn isSp tp L b) + (i + 1)))) dX7_next_108 rfl  (nI_1 _) ?_
            refine zV_puti 12 dX7_next_109 rfl fl_RX7_230 rfl (by decide) rfl rfl rfl ?_
            refine zV_goto (tgt := 84) dX7_next_112 rfl ?_
            exact ih (up2 I2 76 12 (nI ((scn isSp tp L b) + (i + 1)))) (sm_12 (x := ((scn isSp tp L b) + (i + 1))) h2) (fun j hj => by (by_cases e : j = i); (· subst e; exact h99); (· exact hno j (by omega)))
    · skip
      refine zV_aload_n dX7_next_34 rfl 0 rfl rfl ?_
      refine zV_aload_n dX7_next_35 rfl 0 rfl rfl ?_
      refine zV_getI (x := (nI (scn isSp tp L b))) 11 dX7_next_36 rfl fl_RX7_233 rfl (by decide) rfl h1.1.1 ?_
      refine zV_callV (E' := eX7_byteAt (g_rmv 0)) (av := [.int (nI (scn isSp tp L b))]) (st := []) (b := 76) dX7_next_39 rfl (k_RX7_236 _) rfl ⟨by decide, by decide⟩ ⟨by decide, by decide⟩ (Or.inl rfl) rfl (Nat.le_of_ble_eq_true rfl) rfl rfl rfl (m_byteAt0 (i := (scn isSp tp L b)) (h1.2.1.use hr) (by omega) (by omega)) (fun r39 M39 z => ?_)
      obtain ⟨rfl, rfl⟩ := z
      show zV G (eX7_next (g_rmv 1)) (0, 0) 42 [(0, .ref 76)] [.int (-1)] (mm I1 J t) _
      refine zV_istore_n (lv' := [(0, .ref 76), (1, .int (-1))]) dX7_next_42 rfl rfl (by decide) rfl ?_
      refine zV_aload_n dX7_next_43 rfl 0 rfl rfl ?_
      refine zV_aload_n dX7_next_44 rfl 0 rfl rfl ?_
      refine zV_getI (x := (nI (scn isSp tp L b))) 11 dX7_next_45 rfl fl_RX7_233 rfl (by decide) rfl h1.1.1 ?_
      refine zV_puti 12 dX7_next_48 rfl fl_RX7_230 rfl (by decide) rfl rfl rfl ?_
      refine zV_aload_n dX7_next_51 rfl 0 rfl rfl ?_
      refine zV_iconst (v := (nI 0)) dX7_next_52 rfl rfl ?_
      refine zV_puti 14 dX7_next_53 rfl fl_RX7_239 rfl (by decide) rfl rfl rfl ?_
      refine zV_iload_n dX7_next_56 rfl 1 rfl rfl ?_
      refine zV_if_ge (tgt := 68) dX7_next_57 rfl rfl  (fun z => absurd z (by decide)) (fun _ => ?_)
      refine zV_aload_n dX7_next_60 rfl 0 rfl rfl ?_
      refine zV_iconst (v := (nI 0)) dX7_next_61 rfl rfl ?_
      refine zV_puti 13 dX7_next_62 rfl fl_RX7_242 rfl (by decide) rfl rfl rfl ?_
      refine zV_goto (tgt := 206) dX7_next_65 rfl ?_
      exact zV_return dX7_next_206 rfl (⟨_, rfl, rfl, by rw [nxt_end (by omega)]; exact (sm_13 (x := 0) (sm_14 (x := 0) (sm_12 (x := (scn isSp tp L b)) h1))).1, (sm_13 (x := 0) (sm_14 (x := 0) (sm_12 (x := (scn isSp tp L b)) h1))).2.1, (sm_13 (x := 0) (sm_14 (x := 0) (sm_12 (x := (scn isSp tp L b)) h1))).2.2⟩)
  refine z_for (fun i => ∀ I1, stM I I1 (b + i) b c0 d0 w → (∀ j, j < i → isSp (tp (b + j)) = true) → zV G (eX7_next (g_rmv 1)) (0, 0) 8 [(0, .ref 76)] [] (mm I1 J t) _) (L - b) ?_ ?_ 0 (Nat.zero_le _) (up2 I 76 11 (nI b)) (sm_11 (x := b) h00) (fun j h => absurd h (Nat.not_lt_zero _))
  · intro I1 h1 hno
    refine zV_aload_n dX7_next_8 rfl 0 rfl rfl ?_
    refine zV_aload_n dX7_next_9 rfl 0 rfl rfl ?_
    refine zV_getI (x := (nI (b + (L - b)))) 11 dX7_next_10 rfl fl_RX7_233 rfl (by decide) rfl h1.1.1 ?_
    refine zV_callV (E' := eX7_byteAt (g_rmv 0)) (av := [.int (nI (b + (L - b)))]) (st := []) (b := 76) dX7_next_13 rfl (k_RX7_236 _) rfl ⟨by decide, by decide⟩ ⟨by decide, by decide⟩ (Or.inl rfl) rfl (Nat.le_of_ble_eq_true rfl) rfl rfl rfl (m_byteAt0 (i := (b + (L - b))) (h1.2.1.use hr) (by omega) (by omega)) (fun r13 M13 z => ?_)
    obtain ⟨rfl, rfl⟩ := z
    show zV G (eX7_next (g_rmv 1)) (0, 0) 16 [(0, .ref 76)] [.int (-1)] (mm I1 J t) _
    refine zV_bipush (v := (nI 32)) dX7_next_16 rfl rfl ?_
    refine zV_icmp_ne (tgt := 34) dX7_next_18 rfl rfl  (fun _ => ?_) (fun z => absurd z (by decide))
    exact k34 I1 (by rw [scn_end hb hno]; exact h1)
  · intro i hi ih I1 h1 hno
    refine zV_aload_n dX7_next_8 rfl 0 rfl rfl ?_
    refine zV_aload_n dX7_next_9 rfl 0 rfl rfl ?_
    refine zV_getI (x := (nI (b + i))) 11 dX7_next_10 rfl fl_RX7_233 rfl (by decide) rfl h1.1.1 ?_
    refine zV_callV (E' := eX7_byteAt (g_rmv 0)) (av := [.int (nI (b + i))]) (st := []) (b := 76) dX7_next_13 rfl (k_RX7_236 _) rfl ⟨by decide, by decide⟩ ⟨by decide, by decide⟩ (Or.inl rfl) rfl (Nat.le_of_ble_eq_true rfl) rfl rfl rfl (m_byteAt1 (i := (b + i)) (h1.2.1.use hr) (by omega)) (fun r13 M13 z => ?_)
    obtain ⟨rfl, rfl⟩ := z
    show zV G (eX7_next (g_rmv 1)) (0, 0) 16 [(0, .ref 76)] [.int (nI (tp (b + i)))] (mm I1 J t) _
    refine zV_bipush (v := (nI 32)) dX7_next_16 rfl rfl ?_
    refine zN_icmp_ne (tgt := 34) dX7_next_18 rfl rfl (Nat.lt_trans (h256 _) (by decide)) (by decide) (fun h18 => ?_) (fun h18 => ?_)
    · exact k34 I1 (by rw [scn_at hi hno (fun z => h18 (of_decide_eq_true z))]; exact h1)
    · refine zV_aload_n dX7_next_21 rfl 0 rfl rfl ?_
      refine zV_dup dX7_next_22 rfl rfl ?_
      refine zV_getI (x := (nI (b + i))) 11 dX7_next_23 rfl fl_RX7_233 rfl (by decide) rfl h1.1.1 ?_
      refine zV_iconst (v := (nI 1)) dX7_next_26 rfl rfl ?_
      refine zA_iadd (z := (nI (b + (i + 1)))) dX7_next_27 rfl  (nI_1 _) ?_
      refine zV_puti 11 dX7_next_28 rfl fl_RX7_233 rfl (by decide) rfl rfl rfl ?_
      refine zV_goto (tgt := 8) dX7_next_31 rfl ?_
      exact ih (up2 I1 76 11 (nI (b + (i + 1)))) (sm_11 (x := (b + (i + 1))) h1) (fun j hj => by (by_cases e : j = i); (· subst e; exact decide_eq_true h18); (· exact hno j (by omega)))

set_option maxRecDepth 100000 in
theorem m_isWord {G : mG} {I : Nat → Nat → Int32} {J : Nat → Nat → Int64} {tm : Nat} {L : Nat} {tp : Nat → Nat} {k : aT} (hr : rdM I tp L) (hk : tkM I k) (ho : okT L k) {t : Nat} (ht : t < 11) : zC G yX7_isWord (eX7_isWord (g_rmv 5)) [.ref 76, .ref (1000 + t)] (mm I J tm) (fun r M => r = some (.int (b2 (isW tp k t))) ∧ M = mm I J tm) := by
  refine zC_of (by decide +kernel) rfl (by decide) (Nat.le_of_ble_eq_true rfl) ?_
  obtain ⟨o1, o2, o3, o4⟩ := ho
  have hL := hr.2.1
  have l7 := g_len_7 t ht
  show zV G (eX7_isWord (g_rmv 5)) (0, 0) 0 [(0, .ref 76), (1, .ref (1000 + t))] [] (mm I J tm) _
  refine zV_aload_n dX7_isWord_0 rfl 0 rfl rfl ?_
  refine zV_getI (x := (nI (min k.1 3))) 13 dX7_isWord_1 rfl fl_RX7_242 rfl (by decide) rfl hk.2.2.1 ?_
  refine zV_iconst (v := (nI 1)) dX7_isWord_4 rfl rfl ?_
  refine zN_icmp_ne (tgt := 28) dX7_isWord_5 rfl rfl (by omega) (by omega) (fun h5 => ?_) (fun h5 => ?_)
  · refine zV_iconst (v := (nI 0)) dX7_isWord_28 rfl rfl ?_
    refine zV_istore_n (lv' := [(0, .ref 76), (1, .ref (1000 + t)), (2, .int (nI 0))]) dX7_isWord_29 rfl rfl (by decide) rfl ?_
    refine zV_iconst (v := (nI 0)) dX7_isWord_30 rfl rfl ?_
    refine zV_istore_n (lv' := [(0, .ref 76), (1, .ref (1000 + t)), (2, .int (nI 0)), (3, .int (nI 0))]) dX7_isWord_31 rfl rfl (by decide) rfl ?_
    refine zV_iload_n dX7_isWord_32 rfl 3 rfl rfl ?_
    refine zV_aload_n dX7_isWord_33 rfl 1 rfl rfl ?_
    refine zV_callVs (E' := eJ0_length_8abf5 (g_rmv 1)) (av := []) (st := [.int (nI 0)]) (t := t) ht dX7_isWord_34 rfl (k_RX7_245 _) rfl ⟨by decide, by decide⟩ ⟨by decide, by decide⟩ (Or.inl rfl) rfl (Nat.le_of_ble_eq_true rfl) rfl (c_strlen (t := t) ht) (fun r34 M34 z => ?_)
    obtain ⟨rfl, rfl⟩ := z
    show zV G (eX7_isWord (g_rmv 5)) (0, 0) 37 [(0, .ref 76), (1, .ref (1000 + t)), (2, .int (nI 0)), (3, .int (nI 0))] [.int (nI (g_len.getD t 0)), .int (nI 0)] (mm I J tm) _
    refine zN_icmp_ge (tgt := 75) dX7_isWord_37 rfl rfl (by omega) (by omega) (fun h37 => ?_) (fun h37 => ?_)
    · refine zV_iload_n dX7_isWord_75 rfl 2 rfl rfl ?_
      exact zV_ireturn dX7_isWord_76 rfl rfl (⟨z_b0 (fun z => h5 (by have := z.1; omega)), rfl⟩)
    · refine zV_iload_n dX7_isWord_40 rfl 2 rfl rfl ?_
      refine zN_if_eq (tgt := 75) dX7_isWord_41 rfl rfl (by decide) (fun _ => ?_) (fun z => absurd z (by decide))
      refine zV_iload_n dX7_isWord_75 rfl 2 rfl rfl ?_
      exact zV_ireturn dX7_isWord_76 rfl rfl (⟨z_b0 (fun z => h5 (by have := z.1; omega)), rfl⟩)
  · refine zV_aload_n dX7_isWord_8 rfl 0 rfl rfl ?_
    refine zV_getI (x := (nI k.2.2.1)) 12 dX7_isWord_9 rfl fl_RX7_230 rfl (by decide) rfl hk.2.1 ?_
    refine zV_aload_n dX7_isWord_12 rfl 0 rfl rfl ?_
    refine zV_getI (x := (nI k.2.1)) 11 dX7_isWord_13 rfl fl_RX7_233 rfl (by decide) rfl hk.1 ?_
    refine zA_isub (z := (nI (k.2.2.1 - k.2.1))) dX7_isWord_16 rfl  (pk_sub o2) ?_
    refine zV_aload_n dX7_isWord_17 rfl 1 rfl rfl ?_
    refine zV_callVs (E' := eJ0_length_8abf5 (g_rmv 1)) (av := []) (st := [.int (nI (k.2.2.1 - k.2.1))]) (t := t) ht dX7_isWord_18 rfl (k_RX7_245 _) rfl ⟨by decide, by decide⟩ ⟨by decide, by decide⟩ (Or.inl rfl) rfl (Nat.le_of_ble_eq_true rfl) rfl (c_strlen (t := t) ht) (fun r18 M18 z => ?_)
    obtain ⟨rfl, rfl⟩ := z
    show zV G (eX7_isWord (g_rmv 5)) (0, 0) 21 [(0, .ref 76), (1, .ref (1000 + t))] [.int (nI (g_len.getD t 0)), .int (nI (k.2.2.1 - k.2.1))] (mm I J tm) _
    refine zN_icmp_ne (tgt := 28) dX7_isWord_21 rfl rfl (by omega) (by omega) (fun h21 => ?_) (fun h21 => ?_)
    · skip
      refine zV_iconst (v := (nI 0)) dX7_isWord_28 rfl rfl ?_
      refine zV_istore_n (lv' := [(0, .ref 76), (1, .ref (1000 + t)), (2, .int (nI 0))]) dX7_isWord_29 rfl rfl (by decide) rfl ?_
      refine zV_iconst (v := (nI 0)) dX7_isWord_30 rfl rfl ?_
      refine zV_istore_n (lv' := [(0, .ref 76), (1, .ref (1000 + t)), (2, .int (nI 0)), (3, .int (nI 0))]) dX7_isWord_31 rfl rfl (by decide) rfl ?_
      refine zV_iload_n dX7_isWord_32 rfl 3 rfl rfl ?_
      refine zV_aload_n dX7_isWord_33 rfl 1 rfl rfl ?_
      refine zV_callVs (E' := eJ0_length_8abf5 (g_rmv 1)) (av := []) (st := [.int (nI 0)]) (t := t) ht dX7_isWord_34 rfl (k_RX7_245 _) rfl ⟨by decide, by decide⟩ ⟨by decide, by decide⟩ (Or.inl rfl) rfl (Nat.le_of_ble_eq_true rfl) rfl (c_strlen (t := t) ht) (fun r34 M34 z => ?_)
      obtain ⟨rfl, rfl⟩ := z
      show zV G (eX7_isWord (g_rmv 5)) (0, 0) 37 [(0, .ref 76), (1, .ref (1000 + t)), (2, .int (nI 0)), (3, .int (nI 0))] [.int (nI (g_len.getD t 0)), .int (nI 0)] (mm I J tm) _
      refine zN_icmp_ge (tgt := 75) dX7_isWord_37 rfl rfl (by omega) (by omega) (fun h37 => ?_) (fun h37 => ?_)
      · refine zV_iload_n dX7_isWord_75 rfl 2 rfl rfl ?_
        exact zV_ireturn dX7_isWord_76 rfl rfl (⟨z_b0 (fun z => h21 z.2.1), rfl⟩)
      · refine zV_iload_n dX7_isWord_40 rfl 2 rfl rfl ?_
        refine zN_if_eq (tgt := 75) dX7_isWord_41 rfl rfl (by decide) (fun _ => ?_) (fun z => absurd z (by decide))
        refine zV_iload_n dX7_isWord_75 rfl 2 rfl rfl ?_
        exact zV_ireturn dX7_isWord_76 rfl rfl (⟨z_b0 (fun z => h21 z.2.1), rfl⟩)
    · skip
      refine zV_iconst (v := (nI 1)) dX7_isWord_24 rfl rfl ?_
      refine zV_goto (tgt := 29) dX7_isWord_25 rfl ?_
      refine zV_istore_n (lv' := [(0, .ref 76), (1, .ref (1000 + t)), (2, .int (nI 1))]) dX7_isWord_29 rfl rfl (by decide) rfl ?_
      refine zV_iconst (v := (nI 0)) dX7_isWord_30 rfl rfl ?_
      refine zV_istore_n (lv' := [(0, .ref 76), (1, .ref (1000 + t)), (2, .int (nI 1)), (3, .int (nI 0))]) dX7_isWord_31 rfl rfl (by decide) rfl ?_
      refine z_for (fun i => (∀ j, j < i → nI (tp (k.2.1 + j)) = (g_byt.getD t []).getD j 0) → zV G (eX7_isWord (g_rmv 5)) (0, 0) 32 [(0, .ref 76), (1, .ref (1000 + t)), (2, .int (nI 1)), (3, .int (nI i))] [] (mm I J tm) _) (g_len.getD t 0) ?_ ?_ 0 (Nat.zero_le _) (fun j h => absurd h (Nat.not_lt_zero _))
      · intro hno
        refine zV_iload_n dX7_isWord_32 rfl 3 rfl rfl ?_
        refine zV_aload_n dX7_isWord_33 rfl 1 rfl rfl ?_
        refine zV_callVs (E' := eJ0_length_8abf5 (g_rmv 1)) (av := []) (st := [.int (nI (g_len.getD t 0))]) (t := t) ht dX7_isWord_34 rfl (k_RX7_245 _) rfl ⟨by decide, by decide⟩ ⟨by decide, by decide⟩ (Or.inl rfl) rfl (Nat.le_of_ble_eq_true rfl) rfl (c_strlen (t := t) ht) (fun r34 M34 z => ?_)
        obtain ⟨rfl, rfl⟩ := z
        show zV G (eX7_isWord (g_rmv 5)) (0, 0) 37 [(0, .ref 76), (1, .ref (1000 + t)), (2, .int (nI 1)), (3, .int (nI (g_len.getD t 0)))] [.int (nI (g_len.getD t 0)), .int (nI (g_len.getD t 0))] (mm I J tm) _
        refine zN_icmp_ge (tgt := 75) dX7_isWord_37 rfl rfl (by omega) (by omega) (fun _ => ?_) (fun z => absurd z (by omega))
        refine zV_iload_n dX7_isWord_75 rfl 2 rfl rfl ?_
        exact zV_ireturn dX7_isWord_76 rfl rfl (⟨z_b1 ⟨by omega, h21, hno⟩, rfl⟩)
      · intro i hi ih hno
        refine zV_iload_n dX7_isWord_32 rfl 3 rfl rfl ?_
        refine zV_aload_n dX7_isWord_33 rfl 1 rfl rfl ?_
        refine zV_callVs (E' := eJ0_length_8abf5 (g_rmv 1)) (av := []) (st := [.int (nI i)]) (t := t) ht dX7_isWord_34 rfl (k_RX7_245 _) rfl ⟨by decide, by decide⟩ ⟨by decide, by decide⟩ (Or.inl rfl) rfl (Nat.le_of_ble_eq_true rfl) rfl (c_strlen (t := t) ht) (fun r34 M34 z => ?_)
        obtain ⟨rfl, rfl⟩ := z
        show zV G (eX7_isWord (g_rmv 5)) (0, 0) 37 [(0, .ref 76), (1, .ref (1000 + t)), (2, .int (nI 1)), (3, .int (nI i))] [.int (nI (g_len.getD t 0)), .int (nI i)] (mm I J tm) _
        refine zN_icmp_ge (tgt := 75) dX7_isWord_37 rfl rfl (by omega) (by omega) (fun z => absurd z (by omega)) (fun _ => ?_)
        refine zV_iload_n dX7_isWord_40 rfl 2 rfl rfl ?_
        refine zN_if_eq (tgt := 75) dX7_isWord_41 rfl rfl (by decide) (fun z => absurd z (by decide)) (fun _ => ?_)
        refine zV_aload_n dX7_isWord_44 rfl 0 rfl rfl ?_
        refine zV_getr (q' := 82) 9 dX7_isWord_45 rfl fl_RX7_26 rfl (by decide) rfl rfl ?_
        refine zV_aload_n dX7_isWord_48 rfl 0 rfl rfl ?_
        refine zV_getI (x := (nI k.2.1)) 11 dX7_isWord_49 rfl fl_RX7_233 rfl (by decide) rfl hk.1 ?_
        refine zV_iload_n dX7_isWord_52 rfl 3 rfl rfl ?_
        refine zA_iadd (z := (nI (k.2.1 + i))) dX7_isWord_53 rfl  (nI_add _ _) ?_
        refine zV_iald (x := (nI (tp (k.2.1 + i)))) (k.2.1 + i) dX7_isWord_54 rfl rfl rfl (by omega) (by decide) (hr.2.2.1 (k.2.1 + i) (by omega)) ?_
        refine zV_aload_n dX7_isWord_55 rfl 1 rfl rfl ?_
        refine zV_iload_n dX7_isWord_56 rfl 3 rfl rfl ?_
        refine zV_callVs (E' := eJ0_charAt_5068e (g_rmv 4)) (av := [.int (nI i)]) (st := [.int (nI (tp (k.2.1 + i)))]) (t := t) ht dX7_isWord_57 rfl (k_RX7_248 _) rfl ⟨by decide, by decide⟩ ⟨by decide, by decide⟩ (Or.inl rfl) rfl (Nat.le_of_ble_eq_true rfl) rfl (c_charAt (t := t) (j := i) ht hi) (fun r57 M57 z => ?_)
        obtain ⟨rfl, rfl⟩ := z
        show zV G (eX7_isWord (g_rmv 5)) (0, 0) 60 [(0, .ref 76), (1, .ref (1000 + t)), (2, .int (nI 1)), (3, .int (nI i))] [.int ((g_byt.getD t []).getD i 0), .int (nI (tp (k.2.1 + i)))] (mm I J tm) _
        refine zV_icmp_ne (tgt := 67) dX7_isWord_60 rfl rfl  (fun h60 => ?_) (fun h60 => ?_)
        · refine zV_iconst (v := (nI 0)) dX7_isWord_67 rfl rfl ?_
          refine zV_istore_n (lv' := [(0, .ref 76), (1, .ref (1000 + t)), (2, .int (nI 0)), (3, .int (nI i))]) dX7_isWord_68 rfl rfl (by decide) rfl ?_
          refine zV_iinc (y := (nI (i + 1))) (lv' := [(0, .ref 76), (1, .ref (1000 + t)), (2, .int (nI 0)), (3, .int (nI (i + 1)))]) dX7_isWord_69 rfl 3 rfl (nI_1 _) (by decide) rfl ?_
          refine zV_goto (tgt := 32) dX7_isWord_72 rfl ?_
          refine zV_iload_n dX7_isWord_32 rfl 3 rfl rfl ?_
          refine zV_aload_n dX7_isWord_33 rfl 1 rfl rfl ?_
          refine zV_callVs (E' := eJ0_length_8abf5 (g_rmv 1)) (av := []) (st := [.int (nI (i + 1))]) (t := t) ht dX7_isWord_34 rfl (k_RX7_245 _) rfl ⟨by decide, by decide⟩ ⟨by decide, by decide⟩ (Or.inl rfl) rfl (Nat.le_of_ble_eq_true rfl) rfl (c_strlen (t := t) ht) (fun r34 M34 z => ?_)
          obtain ⟨rfl, rfl⟩ := z
          show zV G (eX7_isWord (g_rmv 5)) (0, 0) 37 [(0, .ref 76), (1, .ref (1000 + t)), (2, .int (nI 0)), (3, .int (nI (i + 1)))] [.int (nI (g_len.getD t 0)), .int (nI (i + 1))] (mm I J tm) _
          refine zN_icmp_ge (tgt := 75) dX7_isWord_37 rfl rfl (by omega) (by omega) (fun h37 => ?_) (fun h37 => ?_)
          · refine zV_iload_n dX7_isWord_75 rfl 2 rfl rfl ?_
            exact zV_ireturn dX7_isWord_76 rfl rfl (⟨z_b0 (fun z => h60 (z.2.2 i hi)), rfl⟩)
          · refine zV_iload_n dX7_isWord_40 rfl 2 rfl rfl ?_
            refine zN_if_eq (tgt := 75) dX7_isWord_41 rfl rfl (by decide) (fun _ => ?_) (fun z => absurd z (by decide))
            refine zV_iload_n dX7_isWord_75 rfl 2 rfl rfl ?_
            exact zV_ireturn dX7_isWord_76 rfl rfl (⟨z_b0 (fun z => h60 (z.2.2 i hi)), rfl⟩)
        · refine zV_iconst (v := (nI 1)) dX7_isWord_63 rfl rfl ?_
          refine zV_goto (tgt := 68) dX7_isWord_64 rfl ?_
          refine zV_istore_n (lv' := [(0, .ref 76), (1, .ref (1000 + t)), (2, .int (nI 1)), (3, .int (nI i))]) dX7_isWord_68 rfl rfl (by decide) rfl ?_
          refine zV_iinc (y := (nI (i + 1))) (lv' := [(0, .ref 76), (1, .ref (1000 + t)), (2, .int (nI 1)), (3, .int (nI (i + 1)))]) dX7_isWord_69 rfl 3 rfl (nI_1 _) (by decide) rfl ?_
          refine zV_goto (tgt := 32) dX7_isWord_72 rfl ?_
          exact ih (fun j hj => by (by_cases e : j = i); (· subst e; exact h60); (· exact hno j (by omega)))
