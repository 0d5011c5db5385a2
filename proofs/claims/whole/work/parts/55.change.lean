/-! changes: findChange of the class -/
theorem encc_lt {B : Nat} {σ : aL} (hW : wfL B σ) {p q : Nat} (o : Option Nat) : encb (rnc σ p q) o < 2 ^ 61 := by
  cases o with
  | none => show 1152921504606846976 < 2 ^ 61; decide
  | some b => have h := rnc_le hW p q b; show rnc σ p q b < 2 ^ 61; omega
set_option maxRecDepth 100000 in
theorem c_findChange {G : mG} {I : Nat → Nat → Int32} {J : Nat → Nat → Int64} {t : Nat} {b B : Nat} {σ : aL} (hb : isLand b) (hA : absL I b σ) (hW : wfL B σ) {p q : Nat} (hp : p < 4) (hq : q < 4) (hpq : p ≠ q) : zC G yX5_findChange (eX5_findChange (g_rmv 4)) [.ref 61, .ref b, .int (nI p), .int (nI q)] (mm I J t) (fun r M => ∃ I', r = some (.int (nI (if (ld_chg σ p q).isSome then 1 else 0))) ∧ M = mm I' J t ∧ (∀ i, (i < 61 ∨ 66 < i) → I' i = I i) ∧ ∀ bb, ld_chg σ p q = some bb → I' 61 6 = nI (gv σ p bb) ∧ I' 61 7 = nI (gv σ q bb) ∧ I' 61 8 = nI (gnN σ p q bb)) := by
  refine zC_of (by decide +kernel) rfl (by decide) (Nat.le_of_ble_eq_true rfl) ?_
  have n10 := hW.1
  have hb27 : b ≤ 27 := by rcases hb with rfl | rfl | rfl <;> decide
  show zV G (eX5_findChange (g_rmv 4)) (0, 0) 0 [(0, .ref 61), (1, .ref b), (2, .int (nI p)), (3, .int (nI q))] [] (mm I J t) _
  refine zV_aload_n dX5_findChange_0 rfl 0 rfl rfl ?_
  refine zV_aload_n dX5_findChange_1 rfl 1 rfl rfl ?_
  refine zV_iload_n dX5_findChange_2 rfl 2 rfl rfl ?_
  refine zV_iload_n dX5_findChange_3 rfl 3 rfl rfl ?_
  refine zV_callV (E' := eX5_weigh (g_rmv 3)) (av := [.ref b, .int (nI p), .int (nI q)]) (st := []) (b := 61) dX5_findChange_4 rfl (k_RX5_66 _) rfl ⟨by decide, by decide⟩ ⟨by decide, by decide⟩ (Or.inl rfl) rfl (Nat.le_of_ble_eq_true rfl) rfl rfl rfl (c_weigh (p := p) (q := q) hb hA hW (by omega) (by omega) hpq) (fun r4 M4 z => ?_)
  obtain ⟨I4, rfl, rfl, hN4, hL4, hX4, hF4⟩ := z
  have hA4 : absL I4 b σ := hA.mv n10 (fun i a c => hF4 i (by omega))
  show zV G (eX5_findChange (g_rmv 4)) (0, 0) 7 [(0, .ref 61), (1, .ref b), (2, .int (nI p)), (3, .int (nI q))] [] (mm I4 J t) _
  refine zV_aload_n dX5_findChange_7 rfl 1 rfl rfl ?_
  refine zV_iload_n dX5_findChange_8 rfl 2 rfl rfl ?_
  refine zV_callV (E' := eX1_coinsIn (g_rmv 0)) (av := [.int (nI p)]) (st := []) (b := b) dX5_findChange_9 rfl (k_RX5_81 _) rfl ⟨by decide, by decide⟩ ⟨by decide, by decide⟩ (Or.inl rfl) rfl (Nat.le_of_ble_eq_true rfl) (sh_land hb) rfl rfl (c_coinsIn (p := p) hb hA4 hW (by omega)) (fun r9 M9 z => ?_)
  obtain ⟨rfl, rfl⟩ := z
  show zV G (eX5_findChange (g_rmv 4)) (0, 0) 12 [(0, .ref 61), (1, .ref b), (2, .int (nI p)), (3, .int (nI q))] [.int (nI (ld_in σ p))] (mm I4 J t) _
  refine zV_istore (lv' := [(0, .ref 61), (1, .ref b), (2, .int (nI p)), (3, .int (nI q)), (4, .int (nI (ld_in σ p)))]) dX5_findChange_12 rfl (by decide) rfl ?_
  refine zV_ldc2 (v := (1152921504606846976)) dX5_findChange_14 rfl tw466 ?_
  refine zV_lstore (lv' := [(0, .ref 61), (1, .ref b), (2, .int (nI p)), (3, .int (nI q)), (4, .int (nI (ld_in σ p))), (5, .long (1152921504606846976))]) dX5_findChange_17 rfl (by decide) rfl ?_
  refine zV_iconst (v := (nI 0)) dX5_findChange_19 rfl rfl ?_
  refine zV_istore (lv' := [(0, .ref 61), (1, .ref b), (2, .int (nI p)), (3, .int (nI q)), (4, .int (nI (ld_in σ p))), (5, .long (1152921504606846976)), (7, .int (nI 0))]) dX5_findChange_20 rfl (by decide) rfl ?_
  have sl := slc_le (ld_u σ p q) 10
  refine z_for (fun i => zV G (eX5_findChange (g_rmv 4)) (0, 0) 22 [(0, .ref 61), (1, .ref b), (2, .int (nI p)), (3, .int (nI q)), (4, .int (nI (ld_in σ p))), (5, .long (lN (encb (rnc σ p q) (fc (bst (rnc σ p q) (fun t => chP σ p q t)) none (slf (ld_u σ p q) 10) i)))), (7, .int (nI i))] [] (mm I4 J t) _) (slc (ld_u σ p q) 10) ?_ ?_ 0 (Nat.zero_le _)
  · skip
    refine zV_iload dX5_findChange_22 rfl 6 rfl ?_
    refine zV_aload_n dX5_findChange_24 rfl 0 rfl rfl ?_
    refine zV_getI (x := (nI (slc (ld_u σ p q) 10))) 2 dX5_findChange_25 rfl fl_RX5_18 rfl (by decide) rfl hN4 ?_
    refine zN_icmp_ge (tgt := 108) dX5_findChange_28 rfl rfl (by omega) (by omega) (fun _ => ?_) (fun z => absurd z (by omega))
    rw [← ld_chg_c n10]
    cases eo : ld_chg σ p q with
    | none =>
      show zV G (eX5_findChange (g_rmv 4)) (0, 0) 108 [(0, .ref 61), (1, .ref b), (2, .int (nI p)), (3, .int (nI q)), (4, .int (nI (ld_in σ p))), (5, .long (lN (encb (rnc σ p q) none))), (7, .int (nI (slc (ld_u σ p q) 10)))] [] (mm I4 J t) _
      refine zV_lload dX5_findChange_108 rfl 5 rfl ?_
      refine zV_ldc2 (v := (1152921504606846976)) dX5_findChange_110 rfl tw466 ?_
      refine zA_lcmp (z := (nI 0)) dX5_findChange_113 rfl  (lgc_eq _) ?_
      refine zN_if_ne (tgt := 119) dX5_findChange_114 rfl rfl (by decide) (fun z => absurd z (by decide)) (fun _ => ?_)
      refine zV_iconst (v := (nI 0)) dX5_findChange_117 rfl rfl ?_
      exact zV_ireturn dX5_findChange_118 rfl rfl (⟨_, rfl, rfl, fun i hi => hF4 i hi, fun bb e => by cases e⟩)
    | some bb =>
      have hbs := (fo_bst _ _ eo).1
      have hrk := rnc_le hW p q bb
      have hbl := isSub_le hbs
      have hul := ld_u_lt n10 p q
      have g1 := gv_lt n10 p bb
      have g2 := gv_lt n10 q bb
      show zV G (eX5_findChange (g_rmv 4)) (0, 0) 108 [(0, .ref 61), (1, .ref b), (2, .int (nI p)), (3, .int (nI q)), (4, .int (nI (ld_in σ p))), (5, .long (lN (rnc σ p q bb))), (7, .int (nI (slc (ld_u σ p q) 10)))] [] (mm I4 J t) _
      refine zV_lload dX5_findChange_108 rfl 5 rfl ?_
      refine zV_ldc2 (v := (1152921504606846976)) dX5_findChange_110 rfl tw466 ?_
      refine zA_lcmp (z := (-1)) dX5_findChange_113 rfl  (lgc_lt ((pk_lLT (a := rnc σ p q bb) (b := 1152921504606846976) (by omega) (by decide)).mpr (by omega))) ?_
      refine zV_if_ne (tgt := 119) dX5_findChange_114 rfl rfl  (fun _ => ?_) (fun z => absurd z (by decide))
      refine zV_aload_n dX5_findChange_119 rfl 0 rfl rfl ?_
      refine zV_lload dX5_findChange_120 rfl 5 rfl ?_
      refine zV_callV (E' := eX5_takeSets (g_rmv 0)) (av := [.long (lN (rnc σ p q bb))]) (st := []) (b := 61) dX5_findChange_122 rfl (k_RX5_99 _) rfl ⟨by decide, by decide⟩ ⟨by decide, by decide⟩ (Or.inl rfl) rfl (Nat.le_of_ble_eq_true rfl) rfl rfl rfl (c_takeSets (a := rnc σ p q bb) (by omega)) (fun r122 M122 z => ?_)
      obtain ⟨rfl, rfl⟩ := z
      show zV G (eX5_findChange (g_rmv 4)) (0, 0) 125 [(0, .ref 61), (1, .ref b), (2, .int (nI p)), (3, .int (nI q)), (4, .int (nI (ld_in σ p))), (5, .long (lN (rnc σ p q bb))), (7, .int (nI (slc (ld_u σ p q) 10)))] [] (mm (up2 (up2 I4 61 6 (nI (rnc σ p q bb / 1024 % 1024))) 61 7 (nI (rnc σ p q bb % 1024))) J t) _
      refine zV_aload_n dX5_findChange_125 rfl 0 rfl rfl ?_
      refine zV_aload_n dX5_findChange_126 rfl 0 rfl rfl ?_
      refine zV_aload_n dX5_findChange_127 rfl 0 rfl rfl ?_
      refine zV_getI (x := (nI (gv σ p bb))) 6 dX5_findChange_128 rfl fl_RX5_31 rfl (by decide) rfl (by rw [up2_nk (by decide), up2_same, rnc_g hW]) ?_
      refine zV_aload_n dX5_findChange_131 rfl 0 rfl rfl ?_
      refine zV_getI (x := (nI (gv σ q bb))) 7 dX5_findChange_132 rfl fl_RX5_34 rfl (by decide) rfl (by rw [up2_same, rnc_b hW]) ?_
      refine zA_ior (z := (nI bb)) dX5_findChange_135 rfl  (by rw [fa_or, gv_or hbs]) ?_
      refine zV_callV (E' := eX5_gainOf (g_rmv 2)) (av := [.int (nI bb)]) (st := [.ref 61]) (b := 61) dX5_findChange_136 rfl (k_RX5_103 _) rfl ⟨by decide, by decide⟩ ⟨by decide, by decide⟩ (Or.inl rfl) rfl (Nat.le_of_ble_eq_true rfl) rfl rfl rfl (c_gainOf (x := bb) hW hpq hbs (fun c hb2 => by rw [up2_ni (by decide), up2_ni (by decide), up2_ni (by decide), up2_ni (by decide)]; exact hX4 c hb2)) (fun r136 M136 z => ?_)
      obtain ⟨rfl, rfl⟩ := z
      show zV G (eX5_findChange (g_rmv 4)) (0, 0) 139 [(0, .ref 61), (1, .ref b), (2, .int (nI p)), (3, .int (nI q)), (4, .int (nI (ld_in σ p))), (5, .long (lN (rnc σ p q bb))), (7, .int (nI (slc (ld_u σ p q) 10)))] [.int (nI (gnN σ p q bb)), .ref 61] (mm (up2 (up2 I4 61 6 (nI (rnc σ p q bb / 1024 % 1024))) 61 7 (nI (rnc σ p q bb % 1024))) J t) _
      refine zV_puti 8 dX5_findChange_139 rfl fl_RX5_37 rfl (by decide) rfl rfl rfl ?_
      refine zV_iconst (v := (nI 1)) dX5_findChange_142 rfl rfl ?_
      exact zV_ireturn dX5_findChange_143 rfl rfl (⟨_, rfl, rfl, fun i hi => by rw [← hF4 i hi]; funext k; rw [up2_ni (by omega), up2_ni (by omega), up2_ni (by omega)], fun b2 e => by cases e; exact ⟨by rw [up2_nk (by decide), up2_nk (by decide), up2_same, rnc_g hW], by rw [up2_nk (by decide), up2_same, rnc_b hW], up2_same _ _ _ _⟩⟩)
  · intro i hi ih
    have hli := slf_lt (ld_u σ p q) 10 i hi
    have hsi := slf_sub (ld_u σ p q) 10 i hi
    have hcn := gnN_le hW p q (slf (ld_u σ p q) 10 i)
    have hrk := rnc_le hW p q (slf (ld_u σ p q) 10 i)
    have g1 := gv_lt n10 p (slf (ld_u σ p q) 10 i)
    have g2 := gv_lt n10 q (slf (ld_u σ p q) 10 i)
    have hen : (encb (rnc σ p q) (fc (bst (rnc σ p q) (fun t => chP σ p q t)) none (slf (ld_u σ p q) 10) i)) < 2 ^ 61 := encc_lt hW _
    refine zV_iload dX5_findChange_22 rfl 6 rfl ?_
    refine zV_aload_n dX5_findChange_24 rfl 0 rfl rfl ?_
    refine zV_getI (x := (nI (slc (ld_u σ p q) 10))) 2 dX5_findChange_25 rfl fl_RX5_18 rfl (by decide) rfl hN4 ?_
    refine zN_icmp_ge (tgt := 108) dX5_findChange_28 rfl rfl (by omega) (by omega) (fun z => absurd z (by omega)) (fun _ => ?_)
    refine zV_aload_n dX5_findChange_31 rfl 0 rfl rfl ?_
    refine zV_getr (q' := 63) 1 dX5_findChange_32 rfl fl_RX5_15 rfl (by decide) rfl rfl ?_
    refine zV_iload dX5_findChange_35 rfl 6 rfl ?_
    refine zV_iald (x := (tot σ p q (slf (ld_u σ p q) 10 i))) i dX5_findChange_37 rfl rfl rfl (by omega) (by decide) ((hL4 i hi).2.trans (tsm_totA hW hpq hsi)) ?_
    refine zV_if_ne (tgt := 55) dX5_findChange_38 rfl rfl  (fun h38 => ?_) (fun h38 => ?_)
    · skip
      refine zV_iconst (v := (nI 0)) dX5_findChange_55 rfl rfl ?_
      refine zV_istore (lv' := [(0, .ref 61), (1, .ref b), (2, .int (nI p)), (3, .int (nI q)), (4, .int (nI (ld_in σ p))), (5, .long (lN (encb (rnc σ p q) (fc (bst (rnc σ p q) (fun t => chP σ p q t)) none (slf (ld_u σ p q) 10) i)))), (7, .int (nI i)), (8, .int (nI 0))]) dX5_findChange_56 rfl (by decide) rfl ?_
      refine zV_iload dX5_findChange_58 rfl 7 rfl ?_
      refine zN_if_le (tgt := 102) dX5_findChange_60 rfl rfl (by decide) (fun _ => ?_) (fun z => absurd z (by decide))
      refine zV_iinc (y := (nI (i + 1))) (lv' := [(0, .ref 61), (1, .ref b), (2, .int (nI p)), (3, .int (nI q)), (4, .int (nI (ld_in σ p))), (5, .long (lN (encb (rnc σ p q) (fc (bst (rnc σ p q) (fun t => chP σ p q t)) none (slf (ld_u σ p q) 10) i)))), (7, .int (nI (i + 1))), (8, .int (nI 0))]) dX5_findChange_102 rfl 6 rfl (nI_1 _) (by decide) rfl ?_
      refine zV_goto (tgt := 22) dX5_findChange_105 rfl ?_
      refine zV_keep (lv' := [(0, .ref 61), (1, .ref b), (2, .int (nI p)), (3, .int (nI q)), (4, .int (nI (ld_in σ p))), (5, .long (lN (encb (rnc σ p q) (fc (bst (rnc σ p q) (fun t => chP σ p q t)) none (slf (ld_u σ p q) 10) i)))), (7, .int (nI (i + 1)))]) [0, 1, 2, 3, 4, 5, 6] rfl ?_
      rw [show (encb (rnc σ p q) (fc (bst (rnc σ p q) (fun t => chP σ p q t)) none (slf (ld_u σ p q) 10) (i + 1))) = (encb (rnc σ p q) (fc (bst (rnc σ p q) (fun t => chP σ p q t)) none (slf (ld_u σ p q) 10) i)) from encb_n (P := fun t => chP σ p q t) (fun z => h38 z.1)] at ih
      exact ih
    · skip
      refine zV_aload_n dX5_findChange_41 rfl 0 rfl rfl ?_
      refine zV_aload_n dX5_findChange_42 rfl 0 rfl rfl ?_
      refine zV_getr (q' := 62) 0 dX5_findChange_43 rfl fl_RX5_9 rfl (by decide) rfl rfl ?_
      refine zV_iload dX5_findChange_46 rfl 6 rfl ?_
      refine zV_iald (x := (nI (slf (ld_u σ p q) 10 i))) i dX5_findChange_48 rfl rfl rfl (by omega) (by decide) ((hL4 i hi).1) ?_
      refine zV_callV (E' := eX5_gainOf (g_rmv 2)) (av := [.int (nI (slf (ld_u σ p q) 10 i))]) (st := []) (b := 61) dX5_findChange_49 rfl (k_RX5_103 _) rfl ⟨by decide, by decide⟩ ⟨by decide, by decide⟩ (Or.inl rfl) rfl (Nat.le_of_ble_eq_true rfl) rfl rfl rfl (c_gainOf (x := (slf (ld_u σ p q) 10 i)) hW hpq hsi hX4) (fun r49 M49 z => ?_)
      obtain ⟨rfl, rfl⟩ := z
      show zV G (eX5_findChange (g_rmv 4)) (0, 0) 52 [(0, .ref 61), (1, .ref b), (2, .int (nI p)), (3, .int (nI q)), (4, .int (nI (ld_in σ p))), (5, .long (lN (encb (rnc σ p q) (fc (bst (rnc σ p q) (fun t => chP σ p q t)) none (slf (ld_u σ p q) 10) i)))), (7, .int (nI i))] [.int (nI (gnN σ p q (slf (ld_u σ p q) 10 i)))] (mm I4 J t) _
      refine zV_goto (tgt := 56) dX5_findChange_52 rfl ?_
      refine zV_istore (lv' := [(0, .ref 61), (1, .ref b), (2, .int (nI p)), (3, .int (nI q)), (4, .int (nI (ld_in σ p))), (5, .long (lN (encb (rnc σ p q) (fc (bst (rnc σ p q) (fun t => chP σ p q t)) none (slf (ld_u σ p q) 10) i)))), (7, .int (nI i)), (8, .int (nI (gnN σ p q (slf (ld_u σ p q) 10 i))))]) dX5_findChange_56 rfl (by decide) rfl ?_
      refine zV_iload dX5_findChange_58 rfl 7 rfl ?_
      refine zN_if_le (tgt := 102) dX5_findChange_60 rfl rfl (by omega) (fun h60 => ?_) (fun h60 => ?_)
      · refine zV_iinc (y := (nI (i + 1))) (lv' := [(0, .ref 61), (1, .ref b), (2, .int (nI p)), (3, .int (nI q)), (4, .int (nI (ld_in σ p))), (5, .long (lN (encb (rnc σ p q) (fc (bst (rnc σ p q) (fun t => chP σ p q t)) none (slf (ld_u σ p q) 10) i)))), (7, .int (nI (i + 1))), (8, .int (nI (gnN σ p q (slf (ld_u σ p q) 10 i))))]) dX5_findChange_102 rfl 6 rfl (nI_1 _) (by decide) rfl ?_
        refine zV_goto (tgt := 22) dX5_findChange_105 rfl ?_
        refine zV_keep (lv' := [(0, .ref 61), (1, .ref b), (2, .int (nI p)), (3, .int (nI q)), (4, .int (nI (ld_in σ p))), (5, .long (lN (encb (rnc σ p q) (fc (bst (rnc σ p q) (fun t => chP σ p q t)) none (slf (ld_u σ p q) 10) i)))), (7, .int (nI (i + 1)))]) [0, 1, 2, 3, 4, 5, 6] rfl ?_
        rw [show (encb (rnc σ p q) (fc (bst (rnc σ p q) (fun t => chP σ p q t)) none (slf (ld_u σ p q) 10) (i + 1))) = (encb (rnc σ p q) (fc (bst (rnc σ p q) (fun t => chP σ p q t)) none (slf (ld_u σ p q) 10) i)) from encb_n (P := fun t => chP σ p q t) (fun z => absurd z.2 (by omega))] at ih
        exact ih
      · refine zV_lload dX5_findChange_63 rfl 5 rfl ?_
        refine zV_sipush (v := (nI 2000)) dX5_findChange_65 rfl rfl ?_
        refine zV_iload dX5_findChange_68 rfl 7 rfl ?_
        refine zA_isub (z := (nI (2000 - gnN σ p q (slf (ld_u σ p q) 10 i)))) dX5_findChange_70 rfl  (pk_sub (by omega)) ?_
        refine zA_i2l (z := (lN (2000 - gnN σ p q (slf (ld_u σ p q) 10 i)))) dX5_findChange_71 rfl (nI_l (by omega)) ?_
        refine zV_aload_n dX5_findChange_72 rfl 0 rfl rfl ?_
        refine zV_getr (q' := 62) 0 dX5_findChange_73 rfl fl_RX5_9 rfl (by decide) rfl rfl ?_
        refine zV_iload dX5_findChange_76 rfl 6 rfl ?_
        refine zV_iald (x := (nI (slf (ld_u σ p q) 10 i))) i dX5_findChange_78 rfl rfl rfl (by omega) (by decide) ((hL4 i hi).1) ?_
        refine zV_iload dX5_findChange_79 rfl 4 rfl ?_
        refine zA_iand (z := (nI (gv σ p (slf (ld_u σ p q) 10 i)))) dX5_findChange_81 rfl  (fa_and _ _) ?_
        refine zV_aload_n dX5_findChange_82 rfl 0 rfl rfl ?_
        refine zV_getr (q' := 62) 0 dX5_findChange_83 rfl fl_RX5_9 rfl (by decide) rfl rfl ?_
        refine zV_iload dX5_findChange_86 rfl 6 rfl ?_
        refine zV_iald (x := (nI (slf (ld_u σ p q) 10 i))) i dX5_findChange_88 rfl rfl rfl (by omega) (by decide) ((hL4 i hi).1) ?_
        refine zV_iload dX5_findChange_89 rfl 4 rfl ?_
        refine zV_iconst (v := (-1)) dX5_findChange_91 rfl rfl ?_
        refine zA_ixor (z := ((nI (ld_in σ p)) ^^^ (-1))) dX5_findChange_92 rfl  (rfl) ?_
        refine zA_iand (z := (nI (gv σ q (slf (ld_u σ p q) 10 i)))) dX5_findChange_93 rfl  (z_nand n10 hpq hsi) ?_
        refine zV_callS (E' := eX5_withSets (g_rmv 0)) (av := [.long (lN (2000 - gnN σ p q (slf (ld_u σ p q) 10 i))), .int (nI (gv σ p (slf (ld_u σ p q) 10 i))), .int (nI (gv σ q (slf (ld_u σ p q) 10 i)))]) (st := [.long (lN (encb (rnc σ p q) (fc (bst (rnc σ p q) (fun t => chP σ p q t)) none (slf (ld_u σ p q) 10) i)))]) dX5_findChange_94 rfl (k_RX5_92 _) rfl ⟨by decide, by decide⟩ ⟨by decide, by decide⟩ (Or.inl rfl) rfl (Nat.le_of_ble_eq_true rfl) (c_withSets (a := 2000 - gnN σ p q (slf (ld_u σ p q) 10 i)) (g := gv σ p (slf (ld_u σ p q) 10 i)) (k := gv σ q (slf (ld_u σ p q) 10 i)) (by omega) (by omega)) (fun r94 M94 z => ?_)
        obtain ⟨rfl, rfl⟩ := z
        show zV G (eX5_findChange (g_rmv 4)) (0, 0) 97 [(0, .ref 61), (1, .ref b), (2, .int (nI p)), (3, .int (nI q)), (4, .int (nI (ld_in σ p))), (5, .long (lN (encb (rnc σ p q) (fc (bst (rnc σ p q) (fun t => chP σ p q t)) none (slf (ld_u σ p q) 10) i)))), (7, .int (nI i)), (8, .int (nI (gnN σ p q (slf (ld_u σ p q) 10 i))))] [.long (lN (rnc σ p q (slf (ld_u σ p q) 10 i))), .long (lN (encb (rnc σ p q) (fc (bst (rnc σ p q) (fun t => chP σ p q t)) none (slf (ld_u σ p q) 10) i)))] (mm I4 J t) _
        refine zV_callS (E' := eJ9_min_f86c9 (g_rmv 0)) (av := [.long (lN (encb (rnc σ p q) (fc (bst (rnc σ p q) (fun t => chP σ p q t)) none (slf (ld_u σ p q) 10) i))), .long (lN (rnc σ p q (slf (ld_u σ p q) 10 i)))]) (st := []) dX5_findChange_97 rfl (k_RX5_96 _) rfl ⟨by decide, by decide⟩ ⟨by decide, by decide⟩ (Or.inl rfl) rfl (Nat.le_of_ble_eq_true rfl) (c_minL (a := (encb (rnc σ p q) (fc (bst (rnc σ p q) (fun t => chP σ p q t)) none (slf (ld_u σ p q) 10) i))) (b := rnc σ p q (slf (ld_u σ p q) 10 i)) (by omega) (by omega)) (fun r97 M97 z => ?_)
        obtain ⟨rfl, rfl⟩ := z
        show zV G (eX5_findChange (g_rmv 4)) (0, 0) 100 [(0, .ref 61), (1, .ref b), (2, .int (nI p)), (3, .int (nI q)), (4, .int (nI (ld_in σ p))), (5, .long (lN (encb (rnc σ p q) (fc (bst (rnc σ p q) (fun t => chP σ p q t)) none (slf (ld_u σ p q) 10) i)))), (7, .int (nI i)), (8, .int (nI (gnN σ p q (slf (ld_u σ p q) 10 i))))] [.long (lN (min (encb (rnc σ p q) (fc (bst (rnc σ p q) (fun t => chP σ p q t)) none (slf (ld_u σ p q) 10) i)) (rnc σ p q (slf (ld_u σ p q) 10 i))))] (mm I4 J t) _
        refine zV_lstore (lv' := [(0, .ref 61), (1, .ref b), (2, .int (nI p)), (3, .int (nI q)), (4, .int (nI (ld_in σ p))), (5, .long (lN (min (encb (rnc σ p q) (fc (bst (rnc σ p q) (fun t => chP σ p q t)) none (slf (ld_u σ p q) 10) i)) (rnc σ p q (slf (ld_u σ p q) 10 i))))), (7, .int (nI i)), (8, .int (nI (gnN σ p q (slf (ld_u σ p q) 10 i))))]) dX5_findChange_100 rfl (by decide) rfl ?_
        refine zV_iinc (y := (nI (i + 1))) (lv' := [(0, .ref 61), (1, .ref b), (2, .int (nI p)), (3, .int (nI q)), (4, .int (nI (ld_in σ p))), (5, .long (lN (min (encb (rnc σ p q) (fc (bst (rnc σ p q) (fun t => chP σ p q t)) none (slf (ld_u σ p q) 10) i)) (rnc σ p q (slf (ld_u σ p q) 10 i))))), (7, .int (nI (i + 1))), (8, .int (nI (gnN σ p q (slf (ld_u σ p q) 10 i))))]) dX5_findChange_102 rfl 6 rfl (nI_1 _) (by decide) rfl ?_
        refine zV_goto (tgt := 22) dX5_findChange_105 rfl ?_
        refine zV_keep (lv' := [(0, .ref 61), (1, .ref b), (2, .int (nI p)), (3, .int (nI q)), (4, .int (nI (ld_in σ p))), (5, .long (lN (min (encb (rnc σ p q) (fc (bst (rnc σ p q) (fun t => chP σ p q t)) none (slf (ld_u σ p q) 10) i)) (rnc σ p q (slf (ld_u σ p q) 10 i))))), (7, .int (nI (i + 1)))]) [0, 1, 2, 3, 4, 5, 6] rfl ?_
        rw [show (encb (rnc σ p q) (fc (bst (rnc σ p q) (fun t => chP σ p q t)) none (slf (ld_u σ p q) 10) (i + 1))) = (min (encb (rnc σ p q) (fc (bst (rnc σ p q) (fun t => chP σ p q t)) none (slf (ld_u σ p q) 10) i)) (rnc σ p q (slf (ld_u σ p q) 10 i))) from encb_y (P := fun t => chP σ p q t) ⟨h38, h60⟩ (by omega)] at ih
        exact ih
