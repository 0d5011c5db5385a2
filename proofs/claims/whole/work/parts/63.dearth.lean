/-! dearth of the reference -/
theorem tot_pos {B : Nat} {σ : aL} (h : wfL B σ) {p q t : Nat} (hx : ¬ tot σ p q t ≤ 0) : ld_sum σ (gv σ q t) < ld_sum σ (gv σ p t) ∧ tot σ p q t = nI (ld_sum σ (gv σ p t) - ld_sum σ (gv σ q t)) := by
  have h1 := ld_sum_le h (gv σ p t)
  have h2 := ld_sum_le h (gv σ q t)
  have h1' : ld_sum σ (t &&& ld_in σ p) ≤ 1000 := h1
  have h2' : ld_sum σ (t &&& ld_in σ q) ≤ 1000 := h2
  have e : (tot σ p q t).toInt = (ld_sum σ (gv σ p t) : Int) - ld_sum σ (gv σ q t) := pk_sub_toInt (by omega) (by omega)
  rw [Int32.le_iff_toInt_le, e, show (0 : Int32).toInt = 0 from rfl] at hx
  exact ⟨by omega, pk_sub (show ld_sum σ (gv σ q t) ≤ ld_sum σ (gv σ p t) by omega)⟩
theorem tot_neg {B : Nat} {σ : aL} (h : wfL B σ) {p q t : Nat} (hx : tot σ p q t ≤ 0) : ld_sum σ (gv σ p t) ≤ ld_sum σ (gv σ q t) := by
  have h1 := ld_sum_le h (gv σ p t)
  have h2 := ld_sum_le h (gv σ q t)
  have h1' : ld_sum σ (t &&& ld_in σ p) ≤ 1000 := h1
  have h2' : ld_sum σ (t &&& ld_in σ q) ≤ 1000 := h2
  have e : (tot σ p q t).toInt = (ld_sum σ (gv σ p t) : Int) - ld_sum σ (gv σ q t) := pk_sub_toInt (by omega) (by omega)
  rw [Int32.le_iff_toInt_le, e, show (0 : Int32).toInt = 0 from rfl] at hx
  omega
set_option maxRecDepth 100000 in
theorem q_dearth {G : mG} {I : Nat → Nat → Int32} {J : Nat → Nat → Int64} {t : Nat} {B : Nat} {S : aS} (hM : InvM I S) (hw : wfS B S) {x y : Int32} : zC G yX7_dearth (eX7_dearth (g_rmv 5)) [.ref 76, .int x, .int y] (mm I J t) (fun r M => PM I (op_dearth S x y) r M) := by
  refine zC_of (by decide +kernel) rfl (by decide) (Nat.le_of_ble_eq_true rfl) ?_
  have n10 := hw.1.1
  show zV G (eX7_dearth (g_rmv 5)) (0, 0) 0 [(0, .ref 76), (1, .int x), (2, .int y)] [] (mm I J t) _
  refine zV_iload_n dX7_dearth_0 rfl 1 rfl rfl ?_
  refine zV_iload_n dX7_dearth_1 rfl 2 rfl rfl ?_
  refine zV_callS (E' := eX7_areTwo (g_rmv 2)) (av := [.int x, .int y]) (st := []) dX7_dearth_2 rfl (k_RX7_159 _) rfl ⟨by decide, by decide⟩ ⟨by decide, by decide⟩ (Or.inl rfl) rfl (Nat.le_of_ble_eq_true rfl) (m_two (x := x) (y := y)) (fun r2 M2 z => ?_)
  obtain ⟨rfl, rfl⟩ := z
  show zV G (eX7_dearth (g_rmv 5)) (0, 0) 5 [(0, .ref 76), (1, .int x), (2, .int y)] [.int (b2 (twoP x y))] (mm I J t) _
  refine zB_if_ne (tgt := 15) dX7_dearth_5 rfl rfl  (fun h5 => ?_) (fun h5 => ?_)
  · obtain ⟨p, q, hp, hq, hpq, rfl, rfl⟩ := z_two h5
    have hi1024 := ld_in_lt n10 p
    have hi1025 := ld_in_lt n10 q
    have hu1024 := ld_u_lt n10 p q
    refine zV_aload_n dX7_dearth_15 rfl 0 rfl rfl ?_
    refine zV_callV (E' := eX7_clear (g_rmv 0)) (av := []) (st := []) (b := 76) dX7_dearth_16 rfl (k_RX7_173 _) rfl ⟨by decide, by decide⟩ ⟨by decide, by decide⟩ (Or.inl rfl) rfl (Nat.le_of_ble_eq_true rfl) rfl rfl rfl m_clear (fun r16 M16 z => ?_)
    obtain ⟨I16, rfl, rfl, hX16, hF16⟩ := z
    show zV G (eX7_dearth (g_rmv 5)) (0, 0) 19 [(0, .ref 76), (1, .int (nI p)), (2, .int (nI q))] [] (mm I16 J t) _
    refine zV_aload_n dX7_dearth_19 rfl 0 rfl rfl ?_
    refine zV_iload_n dX7_dearth_20 rfl 1 rfl rfl ?_
    refine zV_callV (E' := eX7_setOf (g_rmv 2)) (av := [.int (nI p)]) (st := []) (b := 76) dX7_dearth_21 rfl (k_RX7_139 _) rfl ⟨by decide, by decide⟩ ⟨by decide, by decide⟩ (Or.inl rfl) rfl (Nat.le_of_ble_eq_true rfl) rfl rfl rfl (m_setOf (p := p) (hM.1.mv (hF16 77 (by decide))) hw.1 (by omega)) (fun r21 M21 z => ?_)
    obtain ⟨rfl, rfl⟩ := z
    show zV G (eX7_dearth (g_rmv 5)) (0, 0) 24 [(0, .ref 76), (1, .int (nI p)), (2, .int (nI q))] [.int (nI (ld_in S.1 p))] (mm I16 J t) _
    refine zV_istore_n (lv' := [(0, .ref 76), (1, .int (nI p)), (2, .int (nI q)), (3, .int (nI (ld_in S.1 p)))]) dX7_dearth_24 rfl rfl (by decide) rfl ?_
    refine zV_aload_n dX7_dearth_25 rfl 0 rfl rfl ?_
    refine zV_iload_n dX7_dearth_26 rfl 2 rfl rfl ?_
    refine zV_callV (E' := eX7_setOf (g_rmv 2)) (av := [.int (nI q)]) (st := []) (b := 76) dX7_dearth_27 rfl (k_RX7_139 _) rfl ⟨by decide, by decide⟩ ⟨by decide, by decide⟩ (Or.inl rfl) rfl (Nat.le_of_ble_eq_true rfl) rfl rfl rfl (m_setOf (p := q) (hM.1.mv (hF16 77 (by decide))) hw.1 (by omega)) (fun r27 M27 z => ?_)
    obtain ⟨rfl, rfl⟩ := z
    show zV G (eX7_dearth (g_rmv 5)) (0, 0) 30 [(0, .ref 76), (1, .int (nI p)), (2, .int (nI q)), (3, .int (nI (ld_in S.1 p)))] [.int (nI (ld_in S.1 q))] (mm I16 J t) _
    refine zV_istore (lv' := [(0, .ref 76), (1, .int (nI p)), (2, .int (nI q)), (3, .int (nI (ld_in S.1 p))), (4, .int (nI (ld_in S.1 q)))]) dX7_dearth_30 rfl (by decide) rfl ?_
    refine zV_iconst (v := (nI 0)) dX7_dearth_32 rfl rfl ?_
    refine zV_istore (lv' := [(0, .ref 76), (1, .int (nI p)), (2, .int (nI q)), (3, .int (nI (ld_in S.1 p))), (4, .int (nI (ld_in S.1 q))), (5, .int (nI 0))]) dX7_dearth_33 rfl (by decide) rfl ?_
    refine z_for (fun c => ∀ (I1 : Nat → Nat → Int32), ((∀ v, 0 < v → v < 1001 → I1 81 v = b2 (dsn S.1 p q c v = true)) ∧ ∀ i, i ≠ 81 → I1 i = I i) → zV G (eX7_dearth (g_rmv 5)) (0, 0) 35 [(0, .ref 76), (1, .int (nI p)), (2, .int (nI q)), (3, .int (nI (ld_in S.1 p))), (4, .int (nI (ld_in S.1 q))), (5, .int (nI c))] [] (mm I1 J t) _) ((ld_u S.1 p q) + 1) ?_ ?_ 0 (Nat.zero_le _) I16 ⟨fun v _ hv => by rw [hX16 v hv]; exact b2_0 (fun z => by cases z), hF16⟩
    · intro I1 h1
      have hX : ∀ i, i < 1000 → I1 81 (1 + i) = b2 (rcd S.1 (ld_u S.1 p q) ((ld_sum S.1 (ld_in S.1 q)) + 1 + i) = true) := fun i hi => by rw [h1.1 (1 + i) (by omega) (by omega), dsn_rcd hpq, Nat.add_assoc]
      refine zV_iload dX7_dearth_35 rfl 5 rfl ?_
      refine zV_iload_n dX7_dearth_37 rfl 3 rfl rfl ?_
      refine zV_iload dX7_dearth_38 rfl 4 rfl ?_
      refine zA_ior (z := (nI (ld_u S.1 p q))) dX7_dearth_40 rfl  (fa_or _ _) ?_
      refine zN_icmp_gt (tgt := 95) dX7_dearth_41 rfl rfl (by omega) (by omega) (fun _ => ?_) (fun z => absurd z (by omega))
      refine zV_iconst (v := (nI 1)) dX7_dearth_95 rfl rfl ?_
      refine zV_istore (lv' := [(0, .ref 76), (1, .int (nI p)), (2, .int (nI q)), (3, .int (nI (ld_in S.1 p))), (4, .int (nI (ld_in S.1 q))), (5, .int (nI 1))]) dX7_dearth_96 rfl (by decide) rfl ?_
      refine z_for (fun i => (∀ j, j < i → rcd S.1 (ld_u S.1 p q) ((ld_sum S.1 (ld_in S.1 q)) + 1 + j) = true) → zV G (eX7_dearth (g_rmv 5)) (0, 0) 98 [(0, .ref 76), (1, .int (nI p)), (2, .int (nI q)), (3, .int (nI (ld_in S.1 p))), (4, .int (nI (ld_in S.1 q))), (5, .int (nI (1 + i)))] [] (mm I1 J t) _) 999 ?_ ?_ 0 (Nat.zero_le _) (fun j h => absurd h (Nat.not_lt_zero _))
      · intro hno
        refine zV_iload dX7_dearth_98 rfl 5 rfl ?_
        refine zV_sipush (v := (nI 999)) dX7_dearth_100 rfl rfl ?_
        refine zN_icmp_gt (tgt := 122) dX7_dearth_103 rfl rfl (by omega) (by omega) (fun _ => ?_) (fun z => absurd z (by omega))
        refine zV_iload dX7_dearth_122 rfl 5 rfl ?_
        refine zV_sipush (v := (nI 999)) dX7_dearth_124 rfl rfl ?_
        refine zN_icmp_le (tgt := 139) dX7_dearth_127 rfl rfl (by omega) (by omega) (fun z => absurd z (by omega)) (fun _ => ?_)
        refine zV_aload_n dX7_dearth_130 rfl 0 rfl rfl ?_
        refine zV_ldc (v := (-1000004)) dX7_dearth_131 rfl tw1107 ?_
        refine zV_callV (E' := eX7_finding (g_rmv 0)) (av := [.int (-1000004)]) (st := []) (b := 76) dX7_dearth_133 rfl (k_RX7_87 _) rfl ⟨by decide, by decide⟩ ⟨by decide, by decide⟩ (Or.inl rfl) rfl (Nat.le_of_ble_eq_true rfl) rfl rfl rfl (m_finding (w := 3) (by decide) (by decide)) (fun r133 M133 z => ?_)
        obtain ⟨rfl, rfl⟩ := z
        show zV G (eX7_dearth (g_rmv 5)) (0, 0) 136 [(0, .ref 76), (1, .int (nI p)), (2, .int (nI q)), (3, .int (nI (ld_in S.1 p))), (4, .int (nI (ld_in S.1 q))), (5, .int (nI (1 + 999)))] [.int (fdg 3)] (mm (mTell I1 3) J t) _
        refine zV_goto (tgt := 141) dX7_dearth_136 rfl ?_
        exact zV_ireturn dX7_dearth_141 rfl rfl (PM.tell hM (by decide) (by have hd : dth S.1 p q = 999 := fst_end (fun j hj => by rw [hno j hj]; rfl); unfold op_dearth; rw [if_pos h5, tn_nI (show p < 2 ^ 31 by omega), tn_nI (show q < 2 ^ 31 by omega), if_neg (by omega)]) (sc81 h1.2))
      · intro i hi ih hno
        refine zV_iload dX7_dearth_98 rfl 5 rfl ?_
        refine zV_sipush (v := (nI 999)) dX7_dearth_100 rfl rfl ?_
        refine zN_icmp_gt (tgt := 122) dX7_dearth_103 rfl rfl (by omega) (by omega) (fun z => absurd z (by omega)) (fun _ => ?_)
        refine zV_aload_n dX7_dearth_106 rfl 0 rfl rfl ?_
        refine zV_getr (q' := 81) 5 dX7_dearth_107 rfl fl_RX7_22 rfl (by decide) rfl rfl ?_
        refine zV_iload dX7_dearth_110 rfl 5 rfl ?_
        refine zV_zaload (1 + i) dX7_dearth_112 rfl rfl rfl (by omega) (by decide) ?_
        refine zV_if_eq (tgt := 122) dX7_dearth_113 rfl rfl  (fun h113 => ?_) (fun h113 => ?_)
        · have hn0 : ¬ rcd S.1 (ld_u S.1 p q) ((ld_sum S.1 (ld_in S.1 q)) + 1 + i) = true := by rw [hX i (by omega)] at h113; exact b2_z.mp h113
          refine zV_iload dX7_dearth_122 rfl 5 rfl ?_
          refine zV_sipush (v := (nI 999)) dX7_dearth_124 rfl rfl ?_
          refine zN_icmp_le (tgt := 139) dX7_dearth_127 rfl rfl (by omega) (by omega) (fun _ => ?_) (fun z => absurd z (by omega))
          refine zV_iload dX7_dearth_139 rfl 5 rfl ?_
          exact zV_ireturn dX7_dearth_141 rfl rfl (PM.same hM (by have hd : dth S.1 p q = i := fst_is hi (fun j hj => by rw [hno j hj]; rfl) (by cases e : rcd S.1 (ld_u S.1 p q) ((ld_sum S.1 (ld_in S.1 q)) + 1 + i) with | false => rfl | true => exact absurd e hn0); unfold op_dearth; rw [if_pos h5, tn_nI (show p < 2 ^ 31 by omega), tn_nI (show q < 2 ^ 31 by omega), if_pos (by omega), hd, Nat.add_comm]) (sc81 h1.2))
        · have hye : rcd S.1 (ld_u S.1 p q) ((ld_sum S.1 (ld_in S.1 q)) + 1 + i) = true := Classical.byContradiction fun z => h113 (by rw [hX i (by omega)]; exact b2_z.mpr z)
          refine zV_iinc (y := (nI (1 + (i + 1)))) (lv' := [(0, .ref 76), (1, .int (nI p)), (2, .int (nI q)), (3, .int (nI (ld_in S.1 p))), (4, .int (nI (ld_in S.1 q))), (5, .int (nI (1 + (i + 1))))]) dX7_dearth_116 rfl 5 rfl (nI_1 _) (by decide) rfl ?_
          refine zV_goto (tgt := 98) dX7_dearth_119 rfl ?_
          exact ih (fun j hj => by (by_cases e : j = i); (· subst e; exact hye); (· exact hno j (by omega)))
    · intro c hc ih I1 h1
      have g1 := gv_lt n10 p c
      have g2 := gv_lt n10 q c
      have gs1 := ld_sum_le hw.1 (gv S.1 p c)
      have gs2 := ld_sum_le hw.1 (gv S.1 q c)
      refine zV_iload dX7_dearth_35 rfl 5 rfl ?_
      refine zV_iload_n dX7_dearth_37 rfl 3 rfl rfl ?_
      refine zV_iload dX7_dearth_38 rfl 4 rfl ?_
      refine zA_ior (z := (nI (ld_u S.1 p q))) dX7_dearth_40 rfl  (fa_or _ _) ?_
      refine zN_icmp_gt (tgt := 95) dX7_dearth_41 rfl rfl (by omega) (by omega) (fun z => absurd z (by omega)) (fun _ => ?_)
      refine zV_aload_n dX7_dearth_44 rfl 0 rfl rfl ?_
      refine zV_iload dX7_dearth_45 rfl 5 rfl ?_
      refine zV_iload_n dX7_dearth_47 rfl 3 rfl rfl ?_
      refine zA_iand (z := (nI (gv S.1 p c))) dX7_dearth_48 rfl  (fa_and _ _) ?_
      refine zV_callV (E' := eX7_sumOf (g_rmv 4)) (av := [.int (nI (gv S.1 p c))]) (st := []) (b := 76) dX7_dearth_49 rfl (k_RX7_142 _) rfl ⟨by decide, by decide⟩ ⟨by decide, by decide⟩ (Or.inl rfl) rfl (Nat.le_of_ble_eq_true rfl) rfl rfl rfl (m_sumOf (s := (gv S.1 p c)) (hM.1.mv (h1.2 77 (by decide))) hw.1 (by omega)) (fun r49 M49 z => ?_)
      obtain ⟨rfl, rfl⟩ := z
      show zV G (eX7_dearth (g_rmv 5)) (0, 0) 52 [(0, .ref 76), (1, .int (nI p)), (2, .int (nI q)), (3, .int (nI (ld_in S.1 p))), (4, .int (nI (ld_in S.1 q))), (5, .int (nI c))] [.int (nI (ld_sum S.1 (gv S.1 p c)))] (mm I1 J t) _
      refine zV_aload_n dX7_dearth_52 rfl 0 rfl rfl ?_
      refine zV_iload dX7_dearth_53 rfl 5 rfl ?_
      refine zV_iload dX7_dearth_55 rfl 4 rfl ?_
      refine zA_iand (z := (nI (gv S.1 q c))) dX7_dearth_57 rfl  (fa_and _ _) ?_
      refine zV_callV (E' := eX7_sumOf (g_rmv 4)) (av := [.int (nI (gv S.1 q c))]) (st := [.int (nI (ld_sum S.1 (gv S.1 p c)))]) (b := 76) dX7_dearth_58 rfl (k_RX7_142 _) rfl ⟨by decide, by decide⟩ ⟨by decide, by decide⟩ (Or.inl rfl) rfl (Nat.le_of_ble_eq_true rfl) rfl rfl rfl (m_sumOf (s := (gv S.1 q c)) (hM.1.mv (h1.2 77 (by decide))) hw.1 (by omega)) (fun r58 M58 z => ?_)
      obtain ⟨rfl, rfl⟩ := z
      show zV G (eX7_dearth (g_rmv 5)) (0, 0) 61 [(0, .ref 76), (1, .int (nI p)), (2, .int (nI q)), (3, .int (nI (ld_in S.1 p))), (4, .int (nI (ld_in S.1 q))), (5, .int (nI c))] [.int (nI (ld_sum S.1 (gv S.1 q c))), .int (nI (ld_sum S.1 (gv S.1 p c)))] (mm I1 J t) _
      refine zA_isub (z := (tot S.1 p q c)) dX7_dearth_61 rfl  (rfl) ?_
      refine zV_istore (lv' := [(0, .ref 76), (1, .int (nI p)), (2, .int (nI q)), (3, .int (nI (ld_in S.1 p))), (4, .int (nI (ld_in S.1 q))), (5, .int (nI c)), (6, .int (tot S.1 p q c))]) dX7_dearth_62 rfl (by decide) rfl ?_
      refine zV_iload dX7_dearth_64 rfl 5 rfl ?_
      refine zV_iload_n dX7_dearth_66 rfl 3 rfl rfl ?_
      refine zV_iload dX7_dearth_67 rfl 4 rfl ?_
      refine zA_ior (z := (nI (ld_u S.1 p q))) dX7_dearth_69 rfl  (fa_or _ _) ?_
      refine zV_iconst (v := (-1)) dX7_dearth_70 rfl rfl ?_
      refine zA_ixor (z := ((nI (ld_u S.1 p q)) ^^^ (-1))) dX7_dearth_71 rfl  (rfl) ?_
      refine zA_iand (z := (nI c &&& (nI (ld_u S.1 p q) ^^^ (-1)))) dX7_dearth_72 rfl  (rfl) ?_
      refine zV_if_ne (tgt := 89) dX7_dearth_73 rfl rfl  (fun h73 => ?_) (fun h73 => ?_)
      · have hnb : ¬ isSub (ld_u S.1 p q) c = true := fun z => h73 ((z_sub (by omega) (by omega)).mpr z)
        refine zV_iinc (y := (nI (c + 1))) (lv' := [(0, .ref 76), (1, .int (nI p)), (2, .int (nI q)), (3, .int (nI (ld_in S.1 p))), (4, .int (nI (ld_in S.1 q))), (5, .int (nI (c + 1))), (6, .int (tot S.1 p q c))]) dX7_dearth_89 rfl 5 rfl (nI_1 _) (by decide) rfl ?_
        refine zV_goto (tgt := 35) dX7_dearth_92 rfl ?_
        refine zV_keep (lv' := [(0, .ref 76), (1, .int (nI p)), (2, .int (nI q)), (3, .int (nI (ld_in S.1 p))), (4, .int (nI (ld_in S.1 q))), (5, .int (nI (c + 1)))]) [0, 1, 2, 3, 4, 5] rfl ?_
        exact ih I1 ⟨fun v h0 hv => by rw [dsn_s, if_neg hnb]; exact h1.1 v h0 hv, h1.2⟩
      · have hsb := (z_sub (by omega) (by omega)).mp h73
        refine zV_iload dX7_dearth_76 rfl 6 rfl ?_
        refine zV_if_le (tgt := 89) dX7_dearth_78 rfl rfl  (fun h78 => ?_) (fun h78 => ?_)
        · have hle := tot_neg hw.1 h78
          refine zV_iinc (y := (nI (c + 1))) (lv' := [(0, .ref 76), (1, .int (nI p)), (2, .int (nI q)), (3, .int (nI (ld_in S.1 p))), (4, .int (nI (ld_in S.1 q))), (5, .int (nI (c + 1))), (6, .int (tot S.1 p q c))]) dX7_dearth_89 rfl 5 rfl (nI_1 _) (by decide) rfl ?_
          refine zV_goto (tgt := 35) dX7_dearth_92 rfl ?_
          refine zV_keep (lv' := [(0, .ref 76), (1, .int (nI p)), (2, .int (nI q)), (3, .int (nI (ld_in S.1 p))), (4, .int (nI (ld_in S.1 q))), (5, .int (nI (c + 1)))]) [0, 1, 2, 3, 4, 5] rfl ?_
          exact ih I1 ⟨fun v h0 hv => by rw [dsn_s, if_pos hsb, decide_eq_false (by omega), Bool.or_false]; exact h1.1 v h0 hv, h1.2⟩
        · obtain ⟨hlt, het⟩ := tot_pos hw.1 h78
          rw [het]
          refine zV_aload_n dX7_dearth_81 rfl 0 rfl rfl ?_
          refine zV_getr (q' := 81) 5 dX7_dearth_82 rfl fl_RX7_22 rfl (by decide) rfl rfl ?_
          refine zV_iload dX7_dearth_85 rfl 6 rfl ?_
          refine zV_iconst (v := (nI 1)) dX7_dearth_87 rfl rfl ?_
          refine zV_zastore (ld_sum S.1 (gv S.1 p c) - ld_sum S.1 (gv S.1 q c)) dX7_dearth_88 rfl rfl rfl (by omega) (by decide) rfl ?_
          refine zV_iinc (y := (nI (c + 1))) (lv' := [(0, .ref 76), (1, .int (nI p)), (2, .int (nI q)), (3, .int (nI (ld_in S.1 p))), (4, .int (nI (ld_in S.1 q))), (5, .int (nI (c + 1))), (6, .int (nI (ld_sum S.1 (gv S.1 p c) - ld_sum S.1 (gv S.1 q c))))]) dX7_dearth_89 rfl 5 rfl (nI_1 _) (by decide) rfl ?_
          refine zV_goto (tgt := 35) dX7_dearth_92 rfl ?_
          refine zV_keep (lv' := [(0, .ref 76), (1, .int (nI p)), (2, .int (nI q)), (3, .int (nI (ld_in S.1 p))), (4, .int (nI (ld_in S.1 q))), (5, .int (nI (c + 1)))]) [0, 1, 2, 3, 4, 5] rfl ?_
          exact ih _ ⟨fun v h0 hv => by
              rw [dsn_s, if_pos hsb]
              by_cases e : v = (ld_sum S.1 (gv S.1 p c) - ld_sum S.1 (gv S.1 q c))
              · rw [decide_eq_true (show ld_sum S.1 (gv S.1 p c) = ld_sum S.1 (gv S.1 q c) + v by omega), Bool.or_true, e, up2_same]; exact b2_1 rfl
              · rw [up2_nk e, decide_eq_false (by omega), Bool.or_false]; exact h1.1 v h0 hv, fun i hi => by rw [← h1.2 i hi]; funext k; exact up2_ni hi⟩
  · refine zV_aload_n dX7_dearth_8 rfl 0 rfl rfl ?_
    refine zV_ldc (v := (-1000001)) dX7_dearth_9 rfl tw970 ?_
    refine zV_callV (E' := eX7_finding (g_rmv 0)) (av := [.int (-1000001)]) (st := []) (b := 76) dX7_dearth_11 rfl (k_RX7_87 _) rfl ⟨by decide, by decide⟩ ⟨by decide, by decide⟩ (Or.inl rfl) rfl (Nat.le_of_ble_eq_true rfl) rfl rfl rfl (m_finding (w := 0) (by decide) (by decide)) (fun r11 M11 z => ?_)
    obtain ⟨rfl, rfl⟩ := z
    show zV G (eX7_dearth (g_rmv 5)) (0, 0) 14 [(0, .ref 76), (1, .int x), (2, .int y)] [.int (fdg 0)] (mm (mTell I 0) J t) _
    exact zV_ireturn dX7_dearth_14 rfl rfl (PM.tell hM (by decide) (by unfold op_dearth; rw [if_neg h5]) scM.rf)
