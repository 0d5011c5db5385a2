/-! the payment that costs least: both classes -/
theorem encb_lt {B : Nat} {σ : aL} (hW : wfL B σ) {p q : Nat} (o : Option Nat) : encb (rnk σ p q) o < 2 ^ 61 := by
  cases o with
  | none => show 1152921504606846976 < 2 ^ 61; decide
  | some b => have h := rnk_le hW p q b; show rnk σ p q b < 2 ^ 61; omega
set_option maxRecDepth 100000 in
theorem c_findPayment {G : mG} {I : Nat → Nat → Int32} {J : Nat → Nat → Int64} {t : Nat} {b B : Nat} {σ : aL} (hb : isLand b) (hA : absL I b σ) (hW : wfL B σ) {p q v : Nat} (hp : p < 4) (hq : q < 4) (hpq : p ≠ q) (hv : v < 10000) : zC G yX5_findPayment (eX5_findPayment (g_rmv 4)) [.ref 61, .ref b, .int (nI p), .int (nI q), .int (nI v)] (mm I J t) (fun r M => ∃ I', r = some (.int (nI (if (ld_best σ p q v).isSome then 1 else 0))) ∧ M = mm I' J t ∧ (∀ i, (i < 61 ∨ 66 < i) → I' i = I i) ∧ ∀ bb, ld_best σ p q v = some bb → I' 61 6 = nI (gv σ p bb) ∧ I' 61 7 = nI (gv σ q bb) ∧ I' 61 8 = cs σ p q bb) := by
  refine zC_of (by decide +kernel) rfl (by decide) (Nat.le_of_ble_eq_true rfl) ?_
  have n10 := hW.1
  have hb27 : b ≤ 27 := by rcases hb with rfl | rfl | rfl <;> decide
  show zV G (eX5_findPayment (g_rmv 4)) (0, 0) 0 [(0, .ref 61), (1, .ref b), (2, .int (nI p)), (3, .int (nI q)), (4, .int (nI v))] [] (mm I J t) _
  refine zV_aload_n dX5_findPayment_0 rfl 0 rfl rfl ?_
  refine zV_aload_n dX5_findPayment_1 rfl 1 rfl rfl ?_
  refine zV_iload_n dX5_findPayment_2 rfl 2 rfl rfl ?_
  refine zV_iload_n dX5_findPayment_3 rfl 3 rfl rfl ?_
  refine zV_callV (E' := eX5_weigh (g_rmv 3)) (av := [.ref b, .int (nI p), .int (nI q)]) (st := []) (b := 61) dX5_findPayment_4 rfl (k_RX5_66 _) rfl ⟨by decide, by decide⟩ ⟨by decide, by decide⟩ (Or.inl rfl) rfl (Nat.le_of_ble_eq_true rfl) rfl rfl rfl (c_weigh (p := p) (q := q) hb hA hW (by omega) (by omega) hpq) (fun r4 M4 z => ?_)
  obtain ⟨I4, rfl, rfl, hN4, hL4, hX4, hF4⟩ := z
  have hA4 : absL I4 b σ := hA.mv n10 (fun i a c => hF4 i (by omega))
  show zV G (eX5_findPayment (g_rmv 4)) (0, 0) 7 [(0, .ref 61), (1, .ref b), (2, .int (nI p)), (3, .int (nI q)), (4, .int (nI v))] [] (mm I4 J t) _
  refine zV_aload_n dX5_findPayment_7 rfl 1 rfl rfl ?_
  refine zV_iload_n dX5_findPayment_8 rfl 2 rfl rfl ?_
  refine zV_callV (E' := eX1_coinsIn (g_rmv 0)) (av := [.int (nI p)]) (st := []) (b := b) dX5_findPayment_9 rfl (k_RX5_81 _) rfl ⟨by decide, by decide⟩ ⟨by decide, by decide⟩ (Or.inl rfl) rfl (Nat.le_of_ble_eq_true rfl) (sh_land hb) rfl rfl (c_coinsIn (p := p) hb hA4 hW (by omega)) (fun r9 M9 z => ?_)
  obtain ⟨rfl, rfl⟩ := z
  show zV G (eX5_findPayment (g_rmv 4)) (0, 0) 12 [(0, .ref 61), (1, .ref b), (2, .int (nI p)), (3, .int (nI q)), (4, .int (nI v))] [.int (nI (ld_in σ p))] (mm I4 J t) _
  refine zV_istore (lv' := [(0, .ref 61), (1, .ref b), (2, .int (nI p)), (3, .int (nI q)), (4, .int (nI v)), (5, .int (nI (ld_in σ p)))]) dX5_findPayment_12 rfl (by decide) rfl ?_
  refine zV_ldc2 (v := (1152921504606846976)) dX5_findPayment_14 rfl tw466 ?_
  refine zV_lstore (lv' := [(0, .ref 61), (1, .ref b), (2, .int (nI p)), (3, .int (nI q)), (4, .int (nI v)), (5, .int (nI (ld_in σ p))), (6, .long (1152921504606846976))]) dX5_findPayment_17 rfl (by decide) rfl ?_
  refine zV_iconst (v := (nI 0)) dX5_findPayment_19 rfl rfl ?_
  refine zV_istore (lv' := [(0, .ref 61), (1, .ref b), (2, .int (nI p)), (3, .int (nI q)), (4, .int (nI v)), (5, .int (nI (ld_in σ p))), (6, .long (1152921504606846976)), (8, .int (nI 0))]) dX5_findPayment_20 rfl (by decide) rfl ?_
  have sl := slc_le (ld_u σ p q) 10
  refine z_for (fun i => zV G (eX5_findPayment (g_rmv 4)) (0, 0) 22 [(0, .ref 61), (1, .ref b), (2, .int (nI p)), (3, .int (nI q)), (4, .int (nI v)), (5, .int (nI (ld_in σ p))), (6, .long (lN (encb (rnk σ p q) (fc (bst (rnk σ p q) (fun t => tot σ p q t = nI v)) none (slf (ld_u σ p q) 10) i)))), (8, .int (nI i))] [] (mm I4 J t) _) (slc (ld_u σ p q) 10) ?_ ?_ 0 (Nat.zero_le _)
  · skip
    refine zV_iload dX5_findPayment_22 rfl 7 rfl ?_
    refine zV_aload_n dX5_findPayment_24 rfl 0 rfl rfl ?_
    refine zV_getI (x := (nI (slc (ld_u σ p q) 10))) 2 dX5_findPayment_25 rfl fl_RX5_18 rfl (by decide) rfl hN4 ?_
    refine zN_icmp_ge (tgt := 120) dX5_findPayment_28 rfl rfl (by omega) (by omega) (fun _ => ?_) (fun z => absurd z (by omega))
    rw [← ld_best_c n10]
    cases eo : ld_best σ p q v with
    | none =>
      show zV G (eX5_findPayment (g_rmv 4)) (0, 0) 120 [(0, .ref 61), (1, .ref b), (2, .int (nI p)), (3, .int (nI q)), (4, .int (nI v)), (5, .int (nI (ld_in σ p))), (6, .long (lN (encb (rnk σ p q) none))), (8, .int (nI (slc (ld_u σ p q) 10)))] [] (mm I4 J t) _
      refine zV_lload dX5_findPayment_120 rfl 6 rfl ?_
      refine zV_ldc2 (v := (1152921504606846976)) dX5_findPayment_122 rfl tw466 ?_
      refine zA_lcmp (z := (nI 0)) dX5_findPayment_125 rfl  (lgc_eq _) ?_
      refine zN_if_ne (tgt := 131) dX5_findPayment_126 rfl rfl (by decide) (fun z => absurd z (by decide)) (fun _ => ?_)
      refine zV_iconst (v := (nI 0)) dX5_findPayment_129 rfl rfl ?_
      exact zV_ireturn dX5_findPayment_130 rfl rfl (⟨_, rfl, rfl, fun i hi => hF4 i hi, fun bb e => by cases e⟩)
    | some bb =>
      have hbs := (fo_bst _ _ eo).1
      have hrk := rnk_le hW p q bb
      have hbl := isSub_le hbs
      have hul := ld_u_lt n10 p q
      have g1 := gv_lt n10 p bb
      have g2 := gv_lt n10 q bb
      show zV G (eX5_findPayment (g_rmv 4)) (0, 0) 120 [(0, .ref 61), (1, .ref b), (2, .int (nI p)), (3, .int (nI q)), (4, .int (nI v)), (5, .int (nI (ld_in σ p))), (6, .long (lN (rnk σ p q bb))), (8, .int (nI (slc (ld_u σ p q) 10)))] [] (mm I4 J t) _
      refine zV_lload dX5_findPayment_120 rfl 6 rfl ?_
      refine zV_ldc2 (v := (1152921504606846976)) dX5_findPayment_122 rfl tw466 ?_
      refine zA_lcmp (z := (-1)) dX5_findPayment_125 rfl  (lgc_lt ((pk_lLT (a := rnk σ p q bb) (b := 1152921504606846976) (by omega) (by decide)).mpr (by omega))) ?_
      refine zV_if_ne (tgt := 131) dX5_findPayment_126 rfl rfl  (fun _ => ?_) (fun z => absurd z (by decide))
      refine zV_aload_n dX5_findPayment_131 rfl 0 rfl rfl ?_
      refine zV_lload dX5_findPayment_132 rfl 6 rfl ?_
      refine zV_callV (E' := eX5_takeSets (g_rmv 0)) (av := [.long (lN (rnk σ p q bb))]) (st := []) (b := 61) dX5_findPayment_134 rfl (k_RX5_99 _) rfl ⟨by decide, by decide⟩ ⟨by decide, by decide⟩ (Or.inl rfl) rfl (Nat.le_of_ble_eq_true rfl) rfl rfl rfl (c_takeSets (a := rnk σ p q bb) (by omega)) (fun r134 M134 z => ?_)
      obtain ⟨rfl, rfl⟩ := z
      show zV G (eX5_findPayment (g_rmv 4)) (0, 0) 137 [(0, .ref 61), (1, .ref b), (2, .int (nI p)), (3, .int (nI q)), (4, .int (nI v)), (5, .int (nI (ld_in σ p))), (6, .long (lN (rnk σ p q bb))), (8, .int (nI (slc (ld_u σ p q) 10)))] [] (mm (up2 (up2 I4 61 6 (nI (rnk σ p q bb / 1024 % 1024))) 61 7 (nI (rnk σ p q bb % 1024))) J t) _
      refine zV_aload_n dX5_findPayment_137 rfl 0 rfl rfl ?_
      refine zV_aload_n dX5_findPayment_138 rfl 0 rfl rfl ?_
      refine zV_getr (q' := 65) 4 dX5_findPayment_139 rfl fl_RX5_25 rfl (by decide) rfl rfl ?_
      refine zV_aload_n dX5_findPayment_142 rfl 0 rfl rfl ?_
      refine zV_getI (x := (nI (gv σ p bb))) 6 dX5_findPayment_143 rfl fl_RX5_31 rfl (by decide) rfl (by rw [up2_nk (by decide), up2_same, rnk_g hW]) ?_
      refine zV_aload_n dX5_findPayment_146 rfl 0 rfl rfl ?_
      refine zV_getI (x := (nI (gv σ q bb))) 7 dX5_findPayment_147 rfl fl_RX5_34 rfl (by decide) rfl (by rw [up2_same, rnk_b hW]) ?_
      refine zA_ior (z := (nI bb)) dX5_findPayment_150 rfl  (by rw [fa_or, gv_or hbs]) ?_
      refine zV_callS (E' := eX5_totalOf (g_rmv 1)) (av := [.ref 65, .int (nI bb)]) (st := [.ref 61]) dX5_findPayment_151 rfl (k_RX5_86 _) rfl ⟨by decide, by decide⟩ ⟨by decide, by decide⟩ (Or.inl rfl) rfl (Nat.le_of_ble_eq_true rfl) (c_totalOf (q := 65) (s := bb) (e := wL σ p) rfl (by omega) (fun c _ hb2 => by rw [up2_ni (by decide), up2_ni (by decide)]; exact (hX4 c (isSub_iff.mp hbs c hb2)).1)) (fun r151 M151 z => ?_)
      obtain ⟨rfl, rfl⟩ := z
      rw [tsm_cs hW hpq hbs]
      show zV G (eX5_findPayment (g_rmv 4)) (0, 0) 154 [(0, .ref 61), (1, .ref b), (2, .int (nI p)), (3, .int (nI q)), (4, .int (nI v)), (5, .int (nI (ld_in σ p))), (6, .long (lN (rnk σ p q bb))), (8, .int (nI (slc (ld_u σ p q) 10)))] [.int (cs σ p q bb), .ref 61] (mm (up2 (up2 I4 61 6 (nI (rnk σ p q bb / 1024 % 1024))) 61 7 (nI (rnk σ p q bb % 1024))) J t) _
      refine zV_puti 8 dX5_findPayment_154 rfl fl_RX5_37 rfl (by decide) rfl rfl rfl ?_
      refine zV_iconst (v := (nI 1)) dX5_findPayment_157 rfl rfl ?_
      exact zV_ireturn dX5_findPayment_158 rfl rfl (⟨_, rfl, rfl, fun i hi => by rw [← hF4 i hi]; funext k; rw [up2_ni (by omega), up2_ni (by omega), up2_ni (by omega)], fun b2 e => by cases e; exact ⟨by rw [up2_nk (by decide), up2_nk (by decide), up2_same, rnk_g hW], by rw [up2_nk (by decide), up2_same, rnk_b hW], up2_same _ _ _ _⟩⟩)
  · intro i hi ih
    have hli := slf_lt (ld_u σ p q) 10 i hi
    have hsi := slf_sub (ld_u σ p q) 10 i hi
    have hpc := pcnt_le (slf (ld_u σ p q) 10 i)
    have hcn := csN_le hW p q (slf (ld_u σ p q) 10 i)
    have hrk := rnk_le hW p q (slf (ld_u σ p q) 10 i)
    have g1 := gv_lt n10 p (slf (ld_u σ p q) 10 i)
    have g2 := gv_lt n10 q (slf (ld_u σ p q) 10 i)
    have hen : (encb (rnk σ p q) (fc (bst (rnk σ p q) (fun t => tot σ p q t = nI v)) none (slf (ld_u σ p q) 10) i)) < 2 ^ 61 := encb_lt hW _
    refine zV_iload dX5_findPayment_22 rfl 7 rfl ?_
    refine zV_aload_n dX5_findPayment_24 rfl 0 rfl rfl ?_
    refine zV_getI (x := (nI (slc (ld_u σ p q) 10))) 2 dX5_findPayment_25 rfl fl_RX5_18 rfl (by decide) rfl hN4 ?_
    refine zN_icmp_ge (tgt := 120) dX5_findPayment_28 rfl rfl (by omega) (by omega) (fun z => absurd z (by omega)) (fun _ => ?_)
    refine zV_aload_n dX5_findPayment_31 rfl 0 rfl rfl ?_
    refine zV_getr (q' := 63) 1 dX5_findPayment_32 rfl fl_RX5_15 rfl (by decide) rfl rfl ?_
    refine zV_iload dX5_findPayment_35 rfl 7 rfl ?_
    refine zV_iald (x := (tot σ p q (slf (ld_u σ p q) 10 i))) i dX5_findPayment_37 rfl rfl rfl (by omega) (by decide) ((hL4 i hi).2.trans (tsm_totA hW hpq hsi)) ?_
    refine zV_iload dX5_findPayment_38 rfl 4 rfl ?_
    refine zV_icmp_ne (tgt := 114) dX5_findPayment_40 rfl rfl  (fun h40 => ?_) (fun h40 => ?_)
    · refine zV_iinc (y := (nI (i + 1))) (lv' := [(0, .ref 61), (1, .ref b), (2, .int (nI p)), (3, .int (nI q)), (4, .int (nI v)), (5, .int (nI (ld_in σ p))), (6, .long (lN (encb (rnk σ p q) (fc (bst (rnk σ p q) (fun t => tot σ p q t = nI v)) none (slf (ld_u σ p q) 10) i)))), (8, .int (nI (i + 1)))]) dX5_findPayment_114 rfl 7 rfl (nI_1 _) (by decide) rfl ?_
      refine zV_goto (tgt := 22) dX5_findPayment_117 rfl ?_
      rw [show (encb (rnk σ p q) (fc (bst (rnk σ p q) (fun t => tot σ p q t = nI v)) none (slf (ld_u σ p q) 10) (i + 1))) = (encb (rnk σ p q) (fc (bst (rnk σ p q) (fun t => tot σ p q t = nI v)) none (slf (ld_u σ p q) 10) i)) from encb_n h40] at ih
      exact ih
    · refine zV_aload_n dX5_findPayment_43 rfl 0 rfl rfl ?_
      refine zV_getr (q' := 65) 4 dX5_findPayment_44 rfl fl_RX5_25 rfl (by decide) rfl rfl ?_
      refine zV_aload_n dX5_findPayment_47 rfl 0 rfl rfl ?_
      refine zV_getr (q' := 62) 0 dX5_findPayment_48 rfl fl_RX5_9 rfl (by decide) rfl rfl ?_
      refine zV_iload dX5_findPayment_51 rfl 7 rfl ?_
      refine zV_iald (x := (nI (slf (ld_u σ p q) 10 i))) i dX5_findPayment_53 rfl rfl rfl (by omega) (by decide) ((hL4 i hi).1) ?_
      refine zV_callS (E' := eX5_totalOf (g_rmv 1)) (av := [.ref 65, .int (nI (slf (ld_u σ p q) 10 i))]) (st := []) dX5_findPayment_54 rfl (k_RX5_86 _) rfl ⟨by decide, by decide⟩ ⟨by decide, by decide⟩ (Or.inl rfl) rfl (Nat.le_of_ble_eq_true rfl) (c_totalOf (q := 65) (s := (slf (ld_u σ p q) 10 i)) (e := wL σ p) rfl (by omega) (fun c _ hb2 => (hX4 c (isSub_iff.mp hsi c hb2)).1)) (fun r54 M54 z => ?_)
      obtain ⟨rfl, rfl⟩ := z
      rw [tsm_cs hW hpq hsi]
      show zV G (eX5_findPayment (g_rmv 4)) (0, 0) 57 [(0, .ref 61), (1, .ref b), (2, .int (nI p)), (3, .int (nI q)), (4, .int (nI v)), (5, .int (nI (ld_in σ p))), (6, .long (lN (encb (rnk σ p q) (fc (bst (rnk σ p q) (fun t => tot σ p q t = nI v)) none (slf (ld_u σ p q) 10) i)))), (8, .int (nI i))] [.int (cs σ p q (slf (ld_u σ p q) 10 i))] (mm I4 J t) _
      refine zV_sipush (v := (nI 1000)) dX5_findPayment_57 rfl rfl ?_
      refine zA_iadd (z := (nI (csN σ p q (slf (ld_u σ p q) 10 i)))) dX5_findPayment_60 rfl  (cs_N hW _ _ _) ?_
      refine zA_i2l (z := (lN (csN σ p q (slf (ld_u σ p q) 10 i)))) dX5_findPayment_61 rfl (nI_l (by omega)) ?_
      refine zV_ldc2 (v := (16)) dX5_findPayment_62 rfl tw470 ?_
      refine zA_lmul (z := (lN (csN σ p q (slf (ld_u σ p q) 10 i) * 16))) dX5_findPayment_65 rfl  ((lN_mul _ 16)) ?_
      refine zV_aload_n dX5_findPayment_66 rfl 0 rfl rfl ?_
      refine zV_getr (q' := 62) 0 dX5_findPayment_67 rfl fl_RX5_9 rfl (by decide) rfl rfl ?_
      refine zV_iload dX5_findPayment_70 rfl 7 rfl ?_
      refine zV_iald (x := (nI (slf (ld_u σ p q) 10 i))) i dX5_findPayment_72 rfl rfl rfl (by omega) (by decide) ((hL4 i hi).1) ?_
      refine zV_callS (E' := eJ6_bitCount_0f7a4 (g_rmv 0)) (av := [.int (nI (slf (ld_u σ p q) 10 i))]) (st := [.long (lN (csN σ p q (slf (ld_u σ p q) 10 i) * 16))]) dX5_findPayment_73 rfl (k_RX5_70 _) rfl ⟨by decide, by decide⟩ ⟨by decide, by decide⟩ (Or.inl rfl) rfl (Nat.le_of_ble_eq_true rfl) (c_bitCount (s := (slf (ld_u σ p q) 10 i)) (by omega)) (fun r73 M73 z => ?_)
      obtain ⟨rfl, rfl⟩ := z
      show zV G (eX5_findPayment (g_rmv 4)) (0, 0) 76 [(0, .ref 61), (1, .ref b), (2, .int (nI p)), (3, .int (nI q)), (4, .int (nI v)), (5, .int (nI (ld_in σ p))), (6, .long (lN (encb (rnk σ p q) (fc (bst (rnk σ p q) (fun t => tot σ p q t = nI v)) none (slf (ld_u σ p q) 10) i)))), (8, .int (nI i))] [.int (nI (pcnt (slf (ld_u σ p q) 10 i))), .long (lN (csN σ p q (slf (ld_u σ p q) 10 i) * 16))] (mm I4 J t) _
      refine zA_i2l (z := (lN (pcnt (slf (ld_u σ p q) 10 i)))) dX5_findPayment_76 rfl (nI_l (by omega)) ?_
      refine zA_ladd (z := (lN (csN σ p q (slf (ld_u σ p q) 10 i) * 16 + pcnt (slf (ld_u σ p q) 10 i)))) dX5_findPayment_77 rfl  (lN_add _ _) ?_
      refine zV_lstore (lv' := [(0, .ref 61), (1, .ref b), (2, .int (nI p)), (3, .int (nI q)), (4, .int (nI v)), (5, .int (nI (ld_in σ p))), (6, .long (lN (encb (rnk σ p q) (fc (bst (rnk σ p q) (fun t => tot σ p q t = nI v)) none (slf (ld_u σ p q) 10) i)))), (8, .int (nI i)), (9, .long (lN (csN σ p q (slf (ld_u σ p q) 10 i) * 16 + pcnt (slf (ld_u σ p q) 10 i))))]) dX5_findPayment_78 rfl (by decide) rfl ?_
      refine zV_lload dX5_findPayment_80 rfl 6 rfl ?_
      refine zV_lload dX5_findPayment_82 rfl 8 rfl ?_
      refine zV_aload_n dX5_findPayment_84 rfl 0 rfl rfl ?_
      refine zV_getr (q' := 62) 0 dX5_findPayment_85 rfl fl_RX5_9 rfl (by decide) rfl rfl ?_
      refine zV_iload dX5_findPayment_88 rfl 7 rfl ?_
      refine zV_iald (x := (nI (slf (ld_u σ p q) 10 i))) i dX5_findPayment_90 rfl rfl rfl (by omega) (by decide) ((hL4 i hi).1) ?_
      refine zV_iload dX5_findPayment_91 rfl 5 rfl ?_
      refine zA_iand (z := (nI (gv σ p (slf (ld_u σ p q) 10 i)))) dX5_findPayment_93 rfl  (fa_and _ _) ?_
      refine zV_aload_n dX5_findPayment_94 rfl 0 rfl rfl ?_
      refine zV_getr (q' := 62) 0 dX5_findPayment_95 rfl fl_RX5_9 rfl (by decide) rfl rfl ?_
      refine zV_iload dX5_findPayment_98 rfl 7 rfl ?_
      refine zV_iald (x := (nI (slf (ld_u σ p q) 10 i))) i dX5_findPayment_100 rfl rfl rfl (by omega) (by decide) ((hL4 i hi).1) ?_
      refine zV_iload dX5_findPayment_101 rfl 5 rfl ?_
      refine zV_iconst (v := (-1)) dX5_findPayment_103 rfl rfl ?_
      refine zA_ixor (z := ((nI (ld_in σ p)) ^^^ (-1))) dX5_findPayment_104 rfl  (rfl) ?_
      refine zA_iand (z := (nI (gv σ q (slf (ld_u σ p q) 10 i)))) dX5_findPayment_105 rfl  (z_nand n10 hpq hsi) ?_
      refine zV_callS (E' := eX5_withSets (g_rmv 0)) (av := [.long (lN (csN σ p q (slf (ld_u σ p q) 10 i) * 16 + pcnt (slf (ld_u σ p q) 10 i))), .int (nI (gv σ p (slf (ld_u σ p q) 10 i))), .int (nI (gv σ q (slf (ld_u σ p q) 10 i)))]) (st := [.long (lN (encb (rnk σ p q) (fc (bst (rnk σ p q) (fun t => tot σ p q t = nI v)) none (slf (ld_u σ p q) 10) i)))]) dX5_findPayment_106 rfl (k_RX5_92 _) rfl ⟨by decide, by decide⟩ ⟨by decide, by decide⟩ (Or.inl rfl) rfl (Nat.le_of_ble_eq_true rfl) (c_withSets (a := csN σ p q (slf (ld_u σ p q) 10 i) * 16 + pcnt (slf (ld_u σ p q) 10 i)) (g := gv σ p (slf (ld_u σ p q) 10 i)) (k := gv σ q (slf (ld_u σ p q) 10 i)) (by omega) (by omega)) (fun r106 M106 z => ?_)
      obtain ⟨rfl, rfl⟩ := z
      show zV G (eX5_findPayment (g_rmv 4)) (0, 0) 109 [(0, .ref 61), (1, .ref b), (2, .int (nI p)), (3, .int (nI q)), (4, .int (nI v)), (5, .int (nI (ld_in σ p))), (6, .long (lN (encb (rnk σ p q) (fc (bst (rnk σ p q) (fun t => tot σ p q t = nI v)) none (slf (ld_u σ p q) 10) i)))), (8, .int (nI i)), (9, .long (lN (csN σ p q (slf (ld_u σ p q) 10 i) * 16 + pcnt (slf (ld_u σ p q) 10 i))))] [.long (lN (rnk σ p q (slf (ld_u σ p q) 10 i))), .long (lN (encb (rnk σ p q) (fc (bst (rnk σ p q) (fun t => tot σ p q t = nI v)) none (slf (ld_u σ p q) 10) i)))] (mm I4 J t) _
      refine zV_callS (E' := eJ9_min_f86c9 (g_rmv 0)) (av := [.long (lN (encb (rnk σ p q) (fc (bst (rnk σ p q) (fun t => tot σ p q t = nI v)) none (slf (ld_u σ p q) 10) i))), .long (lN (rnk σ p q (slf (ld_u σ p q) 10 i)))]) (st := []) dX5_findPayment_109 rfl (k_RX5_96 _) rfl ⟨by decide, by decide⟩ ⟨by decide, by decide⟩ (Or.inl rfl) rfl (Nat.le_of_ble_eq_true rfl) (c_minL (a := (encb (rnk σ p q) (fc (bst (rnk σ p q) (fun t => tot σ p q t = nI v)) none (slf (ld_u σ p q) 10) i))) (b := rnk σ p q (slf (ld_u σ p q) 10 i)) (by omega) (by omega)) (fun r109 M109 z => ?_)
      obtain ⟨rfl, rfl⟩ := z
      show zV G (eX5_findPayment (g_rmv 4)) (0, 0) 112 [(0, .ref 61), (1, .ref b), (2, .int (nI p)), (3, .int (nI q)), (4, .int (nI v)), (5, .int (nI (ld_in σ p))), (6, .long (lN (encb (rnk σ p q) (fc (bst (rnk σ p q) (fun t => tot σ p q t = nI v)) none (slf (ld_u σ p q) 10) i)))), (8, .int (nI i)), (9, .long (lN (csN σ p q (slf (ld_u σ p q) 10 i) * 16 + pcnt (slf (ld_u σ p q) 10 i))))] [.long (lN (min (encb (rnk σ p q) (fc (bst (rnk σ p q) (fun t => tot σ p q t = nI v)) none (slf (ld_u σ p q) 10) i)) (rnk σ p q (slf (ld_u σ p q) 10 i))))] (mm I4 J t) _
      refine zV_lstore (lv' := [(0, .ref 61), (1, .ref b), (2, .int (nI p)), (3, .int (nI q)), (4, .int (nI v)), (5, .int (nI (ld_in σ p))), (6, .long (lN (min (encb (rnk σ p q) (fc (bst (rnk σ p q) (fun t => tot σ p q t = nI v)) none (slf (ld_u σ p q) 10) i)) (rnk σ p q (slf (ld_u σ p q) 10 i))))), (8, .int (nI i)), (9, .long (lN (csN σ p q (slf (ld_u σ p q) 10 i) * 16 + pcnt (slf (ld_u σ p q) 10 i))))]) dX5_findPayment_112 rfl (by decide) rfl ?_
      refine zV_iinc (y := (nI (i + 1))) (lv' := [(0, .ref 61), (1, .ref b), (2, .int (nI p)), (3, .int (nI q)), (4, .int (nI v)), (5, .int (nI (ld_in σ p))), (6, .long (lN (min (encb (rnk σ p q) (fc (bst (rnk σ p q) (fun t => tot σ p q t = nI v)) none (slf (ld_u σ p q) 10) i)) (rnk σ p q (slf (ld_u σ p q) 10 i))))), (8, .int (nI (i + 1))), (9, .long (lN (csN σ p q (slf (ld_u σ p q) 10 i) * 16 + pcnt (slf (ld_u σ p q) 10 i))))]) dX5_findPayment_114 rfl 7 rfl (nI_1 _) (by decide) rfl ?_
      refine zV_goto (tgt := 22) dX5_findPayment_117 rfl ?_
      refine zV_keep (lv' := [(0, .ref 61), (1, .ref b), (2, .int (nI p)), (3, .int (nI q)), (4, .int (nI v)), (5, .int (nI (ld_in σ p))), (6, .long (lN (min (encb (rnk σ p q) (fc (bst (rnk σ p q) (fun t => tot σ p q t = nI v)) none (slf (ld_u σ p q) 10) i)) (rnk σ p q (slf (ld_u σ p q) 10 i))))), (8, .int (nI (i + 1)))]) [0, 1, 2, 3, 4, 5, 6, 7] rfl ?_
      rw [show (encb (rnk σ p q) (fc (bst (rnk σ p q) (fun t => tot σ p q t = nI v)) none (slf (ld_u σ p q) 10) (i + 1))) = (min (encb (rnk σ p q) (fc (bst (rnk σ p q) (fun t => tot σ p q t = nI v)) none (slf (ld_u σ p q) 10) i)) (rnk σ p q (slf (ld_u σ p q) 10 i))) from encb_y h40 (by omega)] at ih
      exact ih
