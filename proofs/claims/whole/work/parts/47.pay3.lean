/-! the payment that costs least: the reference -/
theorem gv_sub {σ : aL} {p q t : Nat} : gv σ p t ||| gv σ q t = t ↔ isSub (ld_u σ p q) t = true := by
  constructor
  · intro h
    unfold gv at h
    rw [← Nat.and_or_distrib_left] at h
    exact decide_eq_true h
  · exact gv_or
def bfl (I : Nat → Nat → Int32) (σ : aL) (p q : Nat) (o : Option Nat) : Prop := match o with
  | none => I 76 6 = -1
  | some b => I 76 6 = nI (gv σ p b) ∧ I 76 7 = nI (gv σ q b) ∧ I 76 8 = cs σ p q b
def fr3 (I I' : Nat → Nat → Int32) : Prop := (∀ i, i ≠ 76 → I' i = I i) ∧ ∀ k, k ≠ 6 → k ≠ 7 → k ≠ 8 → I' 76 k = I 76 k
theorem fr3.rf {I : Nat → Nat → Int32} : fr3 I I := ⟨fun _ _ => rfl, fun _ _ _ _ => rfl⟩
theorem fr3.tr {I I' I'' : Nat → Nat → Int32} (h : fr3 I I') (h' : fr3 I' I'') : fr3 I I'' := ⟨fun i hi => (h'.1 i hi).trans (h.1 i hi), fun k a b c => (h'.2 k a b c).trans (h.2 k a b c)⟩
theorem fr3.up {I : Nat → Nat → Int32} {k : Nat} {v : Int32} (hk : k = 6 ∨ k = 7 ∨ k = 8) : fr3 I (up2 I 76 k v) := ⟨fun i hi => by funext b; exact up2_ni hi, fun k' a b c => up2_nk (by omega)⟩
set_option maxRecDepth 100000 in
theorem m_findBest {G : mG} {I : Nat → Nat → Int32} {J : Nat → Nat → Int64} {t : Nat} {B : Nat} {σ : aL} (hR : absR I 77 σ) (hW : wfL B σ) {p q v : Nat} (hp : p < 4) (hq : q < 4) (hpq : p ≠ q) (hv : v < 10000) : zC G yX7_findBest (eX7_findBest (g_rmv 5)) [.ref 76, .int (nI p), .int (nI q), .int (nI v)] (mm I J t) (fun r M => ∃ I', r = some (.int (nI (if (ld_best σ p q v).isSome then 1 else 0))) ∧ M = mm I' J t ∧ fr3 I I' ∧ bfl I' σ p q (ld_best σ p q v)) := by
  refine zC_of (by decide +kernel) rfl (by decide) (Nat.le_of_ble_eq_true rfl) ?_
  have n10 := hW.1
  show zV G (eX7_findBest (g_rmv 5)) (0, 0) 0 [(0, .ref 76), (1, .int (nI p)), (2, .int (nI q)), (3, .int (nI v))] [] (mm I J t) _
  refine zV_aload_n dX7_findBest_0 rfl 0 rfl rfl ?_
  refine zV_iconst (v := (-1)) dX7_findBest_1 rfl rfl ?_
  refine zV_puti 6 dX7_findBest_2 rfl fl_RX7_179 rfl (by decide) rfl rfl rfl ?_
  refine zV_aload_n dX7_findBest_5 rfl 0 rfl rfl ?_
  refine zV_iload_n dX7_findBest_6 rfl 1 rfl rfl ?_
  refine zV_callV (E' := eX7_setOf (g_rmv 2)) (av := [.int (nI p)]) (st := []) (b := 76) dX7_findBest_7 rfl (k_RX7_139 _) rfl ⟨by decide, by decide⟩ ⟨by decide, by decide⟩ (Or.inl rfl) rfl (Nat.le_of_ble_eq_true rfl) rfl rfl rfl (m_setOf (p := p) (hR.mv (show up2 I 76 6 (-1) 77 = I 77 from by funext k; exact up2_ni (by decide))) hW (by omega)) (fun r7 M7 z => ?_)
  obtain ⟨rfl, rfl⟩ := z
  show zV G (eX7_findBest (g_rmv 5)) (0, 0) 10 [(0, .ref 76), (1, .int (nI p)), (2, .int (nI q)), (3, .int (nI v))] [.int (nI (ld_in σ p))] (mm (up2 I 76 6 (-1)) J t) _
  refine zV_istore (lv' := [(0, .ref 76), (1, .int (nI p)), (2, .int (nI q)), (3, .int (nI v)), (4, .int (nI (ld_in σ p)))]) dX7_findBest_10 rfl (by decide) rfl ?_
  refine zV_aload_n dX7_findBest_12 rfl 0 rfl rfl ?_
  refine zV_iload_n dX7_findBest_13 rfl 2 rfl rfl ?_
  refine zV_callV (E' := eX7_setOf (g_rmv 2)) (av := [.int (nI q)]) (st := []) (b := 76) dX7_findBest_14 rfl (k_RX7_139 _) rfl ⟨by decide, by decide⟩ ⟨by decide, by decide⟩ (Or.inl rfl) rfl (Nat.le_of_ble_eq_true rfl) rfl rfl rfl (m_setOf (p := q) (hR.mv (show up2 I 76 6 (-1) 77 = I 77 from by funext k; exact up2_ni (by decide))) hW (by omega)) (fun r14 M14 z => ?_)
  obtain ⟨rfl, rfl⟩ := z
  show zV G (eX7_findBest (g_rmv 5)) (0, 0) 17 [(0, .ref 76), (1, .int (nI p)), (2, .int (nI q)), (3, .int (nI v)), (4, .int (nI (ld_in σ p)))] [.int (nI (ld_in σ q))] (mm (up2 I 76 6 (-1)) J t) _
  refine zV_istore (lv' := [(0, .ref 76), (1, .int (nI p)), (2, .int (nI q)), (3, .int (nI v)), (4, .int (nI (ld_in σ p))), (5, .int (nI (ld_in σ q)))]) dX7_findBest_17 rfl (by decide) rfl ?_
  refine zV_iconst (v := (nI 0)) dX7_findBest_19 rfl rfl ?_
  refine zV_istore (lv' := [(0, .ref 76), (1, .int (nI p)), (2, .int (nI q)), (3, .int (nI v)), (4, .int (nI (ld_in σ p))), (5, .int (nI (ld_in σ q))), (6, .int (nI 0))]) dX7_findBest_20 rfl (by decide) rfl ?_
  have hu1024 := ld_u_lt n10 p q
  refine z_for (fun c => ∀ (I1 : Nat → Nat → Int32), (fr3 I I1 ∧ bfl I1 σ p q (fo (bst (rnk σ p q) (fun t => tot σ p q t = nI v)) none (ld_u σ p q) c)) → zV G (eX7_findBest (g_rmv 5)) (0, 0) 22 [(0, .ref 76), (1, .int (nI p)), (2, .int (nI q)), (3, .int (nI v)), (4, .int (nI (ld_in σ p))), (5, .int (nI (ld_in σ q))), (6, .int (nI c))] [] (mm I1 J t) _) ((ld_u σ p q) + 1) ?_ ?_ 0 (Nat.zero_le _) _ ⟨fr3.up (Or.inl rfl), up2_same _ _ _ _⟩
  · intro I1 h1
    refine zV_iload dX7_findBest_22 rfl 6 rfl ?_
    refine zV_iload dX7_findBest_24 rfl 4 rfl ?_
    refine zV_iload dX7_findBest_26 rfl 5 rfl ?_
    refine zA_ior (z := (nI (ld_u σ p q))) dX7_findBest_28 rfl  (fa_or _ _) ?_
    refine zN_icmp_gt (tgt := 126) dX7_findBest_29 rfl rfl (by omega) (by omega) (fun _ => ?_) (fun z => absurd z (by omega))
    have hfl := h1.2
    rw [show (fo (bst (rnk σ p q) (fun t => tot σ p q t = nI v)) none (ld_u σ p q) ((ld_u σ p q) + 1)) = ld_best σ p q v from rfl] at hfl
    cases eo : ld_best σ p q v with
    | none =>
      rw [eo] at hfl
      refine zV_aload_n dX7_findBest_126 rfl 0 rfl rfl ?_
      refine zV_getI (x := (-1)) 6 dX7_findBest_127 rfl fl_RX7_179 rfl (by decide) rfl hfl ?_
      refine zV_if_lt (tgt := 137) dX7_findBest_130 rfl rfl  (fun _ => ?_) (fun z => absurd z (by decide))
      refine zV_iconst (v := (nI 0)) dX7_findBest_137 rfl rfl ?_
      exact zV_ireturn dX7_findBest_138 rfl rfl (⟨_, rfl, rfl, h1.1, by exact hfl⟩)
    | some bb =>
      rw [eo] at hfl
      have g1 := gv_lt n10 p bb
      refine zV_aload_n dX7_findBest_126 rfl 0 rfl rfl ?_
      refine zV_getI (x := (nI (gv σ p bb))) 6 dX7_findBest_127 rfl fl_RX7_179 rfl (by decide) rfl hfl.1 ?_
      refine zN_if_lt (tgt := 137) dX7_findBest_130 rfl (by omega) rfl ?_
      refine zV_iconst (v := (nI 1)) dX7_findBest_133 rfl rfl ?_
      refine zV_goto (tgt := 138) dX7_findBest_134 rfl ?_
      exact zV_ireturn dX7_findBest_138 rfl rfl (⟨_, rfl, rfl, h1.1, by exact hfl⟩)
  · intro c hc ih I1 h1
    have g1 := gv_lt n10 p c
    have g2 := gv_lt n10 q c
    have g3 : gv σ p c ||| gv σ q c < 1024 := Nat.or_lt_two_pow (n := 10) g1 g2
    refine zV_iload dX7_findBest_22 rfl 6 rfl ?_
    refine zV_iload dX7_findBest_24 rfl 4 rfl ?_
    refine zV_iload dX7_findBest_26 rfl 5 rfl ?_
    refine zA_ior (z := (nI (ld_u σ p q))) dX7_findBest_28 rfl  (fa_or _ _) ?_
    refine zN_icmp_gt (tgt := 126) dX7_findBest_29 rfl rfl (by omega) (by omega) (fun z => absurd z (by omega)) (fun _ => ?_)
    refine zV_iload dX7_findBest_32 rfl 6 rfl ?_
    refine zV_iload dX7_findBest_34 rfl 4 rfl ?_
    refine zA_iand (z := (nI (gv σ p c))) dX7_findBest_36 rfl  (fa_and _ _) ?_
    refine zV_istore (lv' := [(0, .ref 76), (1, .int (nI p)), (2, .int (nI q)), (3, .int (nI v)), (4, .int (nI (ld_in σ p))), (5, .int (nI (ld_in σ q))), (6, .int (nI c)), (7, .int (nI (gv σ p c)))]) dX7_findBest_37 rfl (by decide) rfl ?_
    refine zV_iload dX7_findBest_39 rfl 6 rfl ?_
    refine zV_iload dX7_findBest_41 rfl 5 rfl ?_
    refine zA_iand (z := (nI (gv σ q c))) dX7_findBest_43 rfl  (fa_and _ _) ?_
    refine zV_istore (lv' := [(0, .ref 76), (1, .int (nI p)), (2, .int (nI q)), (3, .int (nI v)), (4, .int (nI (ld_in σ p))), (5, .int (nI (ld_in σ q))), (6, .int (nI c)), (7, .int (nI (gv σ p c))), (8, .int (nI (gv σ q c)))]) dX7_findBest_44 rfl (by decide) rfl ?_
    refine zV_iload dX7_findBest_46 rfl 7 rfl ?_
    refine zV_iload dX7_findBest_48 rfl 8 rfl ?_
    refine zA_ior (z := (nI (gv σ p c ||| gv σ q c))) dX7_findBest_50 rfl  (fa_or _ _) ?_
    refine zV_iload dX7_findBest_51 rfl 6 rfl ?_
    refine zN_icmp_ne (tgt := 120) dX7_findBest_53 rfl rfl (by omega) (by omega) (fun h53 => ?_) (fun h53 => ?_)
    · have hnb : ¬ isSub (ld_u σ p q) c = true := fun z => h53 (gv_sub.mpr z)
      refine zV_iinc (y := (nI (c + 1))) (lv' := [(0, .ref 76), (1, .int (nI p)), (2, .int (nI q)), (3, .int (nI v)), (4, .int (nI (ld_in σ p))), (5, .int (nI (ld_in σ q))), (6, .int (nI (c + 1))), (7, .int (nI (gv σ p c))), (8, .int (nI (gv σ q c)))]) dX7_findBest_120 rfl 6 rfl (nI_1 _) (by decide) rfl ?_
      refine zV_goto (tgt := 22) dX7_findBest_123 rfl ?_
      refine zV_keep (lv' := [(0, .ref 76), (1, .int (nI p)), (2, .int (nI q)), (3, .int (nI v)), (4, .int (nI (ld_in σ p))), (5, .int (nI (ld_in σ q))), (6, .int (nI (c + 1)))]) [0, 1, 2, 3, 4, 5, 6] rfl ?_
      exact ih I1 ⟨h1.1, by rw [show (fo (bst (rnk σ p q) (fun t => tot σ p q t = nI v)) none (ld_u σ p q) (c + 1)) = (fo (bst (rnk σ p q) (fun t => tot σ p q t = nI v)) none (ld_u σ p q) c) from if_neg hnb]; exact h1.2⟩
    · have hsb := gv_sub.mp h53
      refine zV_aload_n dX7_findBest_56 rfl 0 rfl rfl ?_
      refine zV_iload dX7_findBest_57 rfl 7 rfl ?_
      refine zV_callV (E' := eX7_sumOf (g_rmv 4)) (av := [.int (nI (gv σ p c))]) (st := []) (b := 76) dX7_findBest_59 rfl (k_RX7_142 _) rfl ⟨by decide, by decide⟩ ⟨by decide, by decide⟩ (Or.inl rfl) rfl (Nat.le_of_ble_eq_true rfl) rfl rfl rfl (m_sumOf (s := (gv σ p c)) (hR.mv (h1.1.1 77 (by decide))) hW (by omega)) (fun r59 M59 z => ?_)
      obtain ⟨rfl, rfl⟩ := z
      show zV G (eX7_findBest (g_rmv 5)) (0, 0) 62 [(0, .ref 76), (1, .int (nI p)), (2, .int (nI q)), (3, .int (nI v)), (4, .int (nI (ld_in σ p))), (5, .int (nI (ld_in σ q))), (6, .int (nI c)), (7, .int (nI (gv σ p c))), (8, .int (nI (gv σ q c)))] [.int (nI (ld_sum σ (gv σ p c)))] (mm I1 J t) _
      refine zV_aload_n dX7_findBest_62 rfl 0 rfl rfl ?_
      refine zV_iload dX7_findBest_63 rfl 8 rfl ?_
      refine zV_callV (E' := eX7_sumOf (g_rmv 4)) (av := [.int (nI (gv σ q c))]) (st := [.int (nI (ld_sum σ (gv σ p c)))]) (b := 76) dX7_findBest_65 rfl (k_RX7_142 _) rfl ⟨by decide, by decide⟩ ⟨by decide, by decide⟩ (Or.inl rfl) rfl (Nat.le_of_ble_eq_true rfl) rfl rfl rfl (m_sumOf (s := (gv σ q c)) (hR.mv (h1.1.1 77 (by decide))) hW (by omega)) (fun r65 M65 z => ?_)
      obtain ⟨rfl, rfl⟩ := z
      show zV G (eX7_findBest (g_rmv 5)) (0, 0) 68 [(0, .ref 76), (1, .int (nI p)), (2, .int (nI q)), (3, .int (nI v)), (4, .int (nI (ld_in σ p))), (5, .int (nI (ld_in σ q))), (6, .int (nI c)), (7, .int (nI (gv σ p c))), (8, .int (nI (gv σ q c)))] [.int (nI (ld_sum σ (gv σ q c))), .int (nI (ld_sum σ (gv σ p c)))] (mm I1 J t) _
      refine zA_isub (z := (tot σ p q c)) dX7_findBest_68 rfl  (rfl) ?_
      refine zV_iload_n dX7_findBest_69 rfl 3 rfl rfl ?_
      refine zV_icmp_ne (tgt := 120) dX7_findBest_70 rfl rfl  (fun h70 => ?_) (fun h70 => ?_)
      · skip
        refine zV_iinc (y := (nI (c + 1))) (lv' := [(0, .ref 76), (1, .int (nI p)), (2, .int (nI q)), (3, .int (nI v)), (4, .int (nI (ld_in σ p))), (5, .int (nI (ld_in σ q))), (6, .int (nI (c + 1))), (7, .int (nI (gv σ p c))), (8, .int (nI (gv σ q c)))]) dX7_findBest_120 rfl 6 rfl (nI_1 _) (by decide) rfl ?_
        refine zV_goto (tgt := 22) dX7_findBest_123 rfl ?_
        refine zV_keep (lv' := [(0, .ref 76), (1, .int (nI p)), (2, .int (nI q)), (3, .int (nI v)), (4, .int (nI (ld_in σ p))), (5, .int (nI (ld_in σ q))), (6, .int (nI (c + 1)))]) [0, 1, 2, 3, 4, 5, 6] rfl ?_
        exact ih I1 ⟨h1.1, by rw [show (fo (bst (rnk σ p q) (fun t => tot σ p q t = nI v)) none (ld_u σ p q) (c + 1)) = (fo (bst (rnk σ p q) (fun t => tot σ p q t = nI v)) none (ld_u σ p q) c) from (if_pos hsb).trans (if_neg h70)]; exact h1.2⟩
      · skip
        refine zV_aload_n dX7_findBest_73 rfl 0 rfl rfl ?_
        refine zV_iload dX7_findBest_74 rfl 7 rfl ?_
        refine zV_callV (E' := eX7_sumOf (g_rmv 4)) (av := [.int (nI (gv σ p c))]) (st := []) (b := 76) dX7_findBest_76 rfl (k_RX7_142 _) rfl ⟨by decide, by decide⟩ ⟨by decide, by decide⟩ (Or.inl rfl) rfl (Nat.le_of_ble_eq_true rfl) rfl rfl rfl (m_sumOf (s := (gv σ p c)) (hR.mv (h1.1.1 77 (by decide))) hW (by omega)) (fun r76 M76 z => ?_)
        obtain ⟨rfl, rfl⟩ := z
        show zV G (eX7_findBest (g_rmv 5)) (0, 0) 79 [(0, .ref 76), (1, .int (nI p)), (2, .int (nI q)), (3, .int (nI v)), (4, .int (nI (ld_in σ p))), (5, .int (nI (ld_in σ q))), (6, .int (nI c)), (7, .int (nI (gv σ p c))), (8, .int (nI (gv σ q c)))] [.int (nI (ld_sum σ (gv σ p c)))] (mm I1 J t) _
        refine zV_aload_n dX7_findBest_79 rfl 0 rfl rfl ?_
        refine zV_iload dX7_findBest_80 rfl 8 rfl ?_
        refine zV_iload_n dX7_findBest_82 rfl 1 rfl rfl ?_
        refine zV_callV (E' := eX7_sumPaid (g_rmv 4)) (av := [.int (nI (gv σ q c)), .int (nI p)]) (st := [.int (nI (ld_sum σ (gv σ p c)))]) (b := 76) dX7_findBest_83 rfl (k_RX7_149 _) rfl ⟨by decide, by decide⟩ ⟨by decide, by decide⟩ (Or.inl rfl) rfl (Nat.le_of_ble_eq_true rfl) rfl rfl rfl (m_sumPaid (s := (gv σ q c)) (p := p) (hR.mv (h1.1.1 77 (by decide))) hW (by omega) (by omega)) (fun r83 M83 z => ?_)
        obtain ⟨rfl, rfl⟩ := z
        show zV G (eX7_findBest (g_rmv 5)) (0, 0) 86 [(0, .ref 76), (1, .int (nI p)), (2, .int (nI q)), (3, .int (nI v)), (4, .int (nI (ld_in σ p))), (5, .int (nI (ld_in σ q))), (6, .int (nI c)), (7, .int (nI (gv σ p c))), (8, .int (nI (gv σ q c)))] [.int (nI (ld_sumP σ (gv σ q c) p)), .int (nI (ld_sum σ (gv σ p c)))] (mm I1 J t) _
        refine zA_isub (z := (cs σ p q c)) dX7_findBest_86 rfl  (rfl) ?_
        refine zV_istore (lv' := [(0, .ref 76), (1, .int (nI p)), (2, .int (nI q)), (3, .int (nI v)), (4, .int (nI (ld_in σ p))), (5, .int (nI (ld_in σ q))), (6, .int (nI c)), (7, .int (nI (gv σ p c))), (8, .int (nI (gv σ q c))), (9, .int (cs σ p q c))]) dX7_findBest_87 rfl (by decide) rfl ?_
        have hfl := h1.2
        cases eo : (fo (bst (rnk σ p q) (fun t => tot σ p q t = nI v)) none (ld_u σ p q) c) with
        | none =>
          rw [eo] at hfl
          refine zV_aload_n dX7_findBest_89 rfl 0 rfl rfl ?_
          refine zV_iload dX7_findBest_90 rfl 9 rfl ?_
          refine zV_iload dX7_findBest_92 rfl 7 rfl ?_
          refine zV_iload dX7_findBest_94 rfl 8 rfl ?_
          refine zV_callV (E' := eX7_isAhead (g_rmv 1)) (av := [.int (cs σ p q c), .int (nI (gv σ p c)), .int (nI (gv σ q c))]) (st := []) (b := 76) dX7_findBest_96 rfl (k_RX7_192 _) rfl ⟨by decide, by decide⟩ ⟨by decide, by decide⟩ (Or.inl rfl) rfl (Nat.le_of_ble_eq_true rfl) rfl rfl rfl (m_isAhead0 hfl) (fun r96 M96 z => ?_)
          obtain ⟨rfl, rfl⟩ := z
          show zV G (eX7_findBest (g_rmv 5)) (0, 0) 99 [(0, .ref 76), (1, .int (nI p)), (2, .int (nI q)), (3, .int (nI v)), (4, .int (nI (ld_in σ p))), (5, .int (nI (ld_in σ q))), (6, .int (nI c)), (7, .int (nI (gv σ p c))), (8, .int (nI (gv σ q c))), (9, .int (cs σ p q c))] [.int (nI 1)] (mm I1 J t) _
          refine zN_if_eq (tgt := 120) dX7_findBest_99 rfl rfl (by decide) (fun z => absurd z (by decide)) (fun _ => ?_)
          refine zV_aload_n dX7_findBest_102 rfl 0 rfl rfl ?_
          refine zV_iload dX7_findBest_103 rfl 9 rfl ?_
          refine zV_puti 8 dX7_findBest_105 rfl fl_RX7_183 rfl (by decide) rfl rfl rfl ?_
          refine zV_aload_n dX7_findBest_108 rfl 0 rfl rfl ?_
          refine zV_iload dX7_findBest_109 rfl 7 rfl ?_
          refine zV_puti 6 dX7_findBest_111 rfl fl_RX7_179 rfl (by decide) rfl rfl rfl ?_
          refine zV_aload_n dX7_findBest_114 rfl 0 rfl rfl ?_
          refine zV_iload dX7_findBest_115 rfl 8 rfl ?_
          refine zV_puti 7 dX7_findBest_117 rfl fl_RX7_189 rfl (by decide) rfl rfl rfl ?_
          refine zV_iinc (y := (nI (c + 1))) (lv' := [(0, .ref 76), (1, .int (nI p)), (2, .int (nI q)), (3, .int (nI v)), (4, .int (nI (ld_in σ p))), (5, .int (nI (ld_in σ q))), (6, .int (nI (c + 1))), (7, .int (nI (gv σ p c))), (8, .int (nI (gv σ q c))), (9, .int (cs σ p q c))]) dX7_findBest_120 rfl 6 rfl (nI_1 _) (by decide) rfl ?_
          refine zV_goto (tgt := 22) dX7_findBest_123 rfl ?_
          refine zV_keep (lv' := [(0, .ref 76), (1, .int (nI p)), (2, .int (nI q)), (3, .int (nI v)), (4, .int (nI (ld_in σ p))), (5, .int (nI (ld_in σ q))), (6, .int (nI (c + 1)))]) [0, 1, 2, 3, 4, 5, 6] rfl ?_
          exact ih _ ⟨h1.1.tr ((fr3.up (Or.inr (Or.inr rfl))).tr ((fr3.up (Or.inl rfl)).tr (fr3.up (Or.inr (Or.inl rfl))))), by rw [show (fo (bst (rnk σ p q) (fun t => tot σ p q t = nI v)) none (ld_u σ p q) (c + 1)) =  some c from (if_pos hsb).trans ((if_pos h70).trans (by rw [eo]))]; exact ⟨by rw [up2_nk (by decide), up2_same], up2_same _ _ _ _, by rw [up2_nk (by decide), up2_nk (by decide), up2_same]⟩⟩
        | some bb =>
          rw [eo] at hfl
          refine zV_aload_n dX7_findBest_89 rfl 0 rfl rfl ?_
          refine zV_iload dX7_findBest_90 rfl 9 rfl ?_
          refine zV_iload dX7_findBest_92 rfl 7 rfl ?_
          refine zV_iload dX7_findBest_94 rfl 8 rfl ?_
          refine zV_callV (E' := eX7_isAhead (g_rmv 1)) (av := [.int (cs σ p q c), .int (nI (gv σ p c)), .int (nI (gv σ q c))]) (st := []) (b := 76) dX7_findBest_96 rfl (k_RX7_192 _) rfl ⟨by decide, by decide⟩ ⟨by decide, by decide⟩ (Or.inl rfl) rfl (Nat.le_of_ble_eq_true rfl) rfl rfl rfl (m_isAhead (b := bb) hW hpq hsb (fo_bst _ _ eo).1 hfl.1 hfl.2.1 hfl.2.2) (fun r96 M96 z => ?_)
          obtain ⟨rfl, rfl⟩ := z
          show zV G (eX7_findBest (g_rmv 5)) (0, 0) 99 [(0, .ref 76), (1, .int (nI p)), (2, .int (nI q)), (3, .int (nI v)), (4, .int (nI (ld_in σ p))), (5, .int (nI (ld_in σ q))), (6, .int (nI c)), (7, .int (nI (gv σ p c))), (8, .int (nI (gv σ q c))), (9, .int (cs σ p q c))] [.int (b2 (rnk σ p q c < rnk σ p q bb))] (mm I1 J t) _
          refine zB_if_eq (tgt := 120) dX7_findBest_99 rfl rfl  (fun h99 => ?_) (fun h99 => ?_)
          · refine zV_iinc (y := (nI (c + 1))) (lv' := [(0, .ref 76), (1, .int (nI p)), (2, .int (nI q)), (3, .int (nI v)), (4, .int (nI (ld_in σ p))), (5, .int (nI (ld_in σ q))), (6, .int (nI (c + 1))), (7, .int (nI (gv σ p c))), (8, .int (nI (gv σ q c))), (9, .int (cs σ p q c))]) dX7_findBest_120 rfl 6 rfl (nI_1 _) (by decide) rfl ?_
            refine zV_goto (tgt := 22) dX7_findBest_123 rfl ?_
            refine zV_keep (lv' := [(0, .ref 76), (1, .int (nI p)), (2, .int (nI q)), (3, .int (nI v)), (4, .int (nI (ld_in σ p))), (5, .int (nI (ld_in σ q))), (6, .int (nI (c + 1)))]) [0, 1, 2, 3, 4, 5, 6] rfl ?_
            exact ih I1 ⟨h1.1, by rw [show (fo (bst (rnk σ p q) (fun t => tot σ p q t = nI v)) none (ld_u σ p q) (c + 1)) =  some bb from (if_pos hsb).trans ((if_pos h70).trans (by rw [eo]; exact if_neg h99))]; exact hfl⟩
          · refine zV_aload_n dX7_findBest_102 rfl 0 rfl rfl ?_
            refine zV_iload dX7_findBest_103 rfl 9 rfl ?_
            refine zV_puti 8 dX7_findBest_105 rfl fl_RX7_183 rfl (by decide) rfl rfl rfl ?_
            refine zV_aload_n dX7_findBest_108 rfl 0 rfl rfl ?_
            refine zV_iload dX7_findBest_109 rfl 7 rfl ?_
            refine zV_puti 6 dX7_findBest_111 rfl fl_RX7_179 rfl (by decide) rfl rfl rfl ?_
            refine zV_aload_n dX7_findBest_114 rfl 0 rfl rfl ?_
            refine zV_iload dX7_findBest_115 rfl 8 rfl ?_
            refine zV_puti 7 dX7_findBest_117 rfl fl_RX7_189 rfl (by decide) rfl rfl rfl ?_
            refine zV_iinc (y := (nI (c + 1))) (lv' := [(0, .ref 76), (1, .int (nI p)), (2, .int (nI q)), (3, .int (nI v)), (4, .int (nI (ld_in σ p))), (5, .int (nI (ld_in σ q))), (6, .int (nI (c + 1))), (7, .int (nI (gv σ p c))), (8, .int (nI (gv σ q c))), (9, .int (cs σ p q c))]) dX7_findBest_120 rfl 6 rfl (nI_1 _) (by decide) rfl ?_
            refine zV_goto (tgt := 22) dX7_findBest_123 rfl ?_
            refine zV_keep (lv' := [(0, .ref 76), (1, .int (nI p)), (2, .int (nI q)), (3, .int (nI v)), (4, .int (nI (ld_in σ p))), (5, .int (nI (ld_in σ q))), (6, .int (nI (c + 1)))]) [0, 1, 2, 3, 4, 5, 6] rfl ?_
            exact ih _ ⟨h1.1.tr ((fr3.up (Or.inr (Or.inr rfl))).tr ((fr3.up (Or.inl rfl)).tr (fr3.up (Or.inr (Or.inl rfl))))), by rw [show (fo (bst (rnk σ p q) (fun t => tot σ p q t = nI v)) none (ld_u σ p q) (c + 1)) =  some c from (if_pos hsb).trans ((if_pos h70).trans (by rw [eo]; exact if_pos h99))]; exact ⟨by rw [up2_nk (by decide), up2_same], up2_same _ _ _ _, by rw [up2_nk (by decide), up2_nk (by decide), up2_same]⟩⟩
