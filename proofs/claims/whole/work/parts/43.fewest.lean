/-! fewest: both classes -/
def fwA (σ : aL) (p q v : Nat) : Int32 := if ld_few σ p q v ≤ 10 then nI (ld_few σ p q v) else -1
set_option maxRecDepth 100000 in
theorem c_fewest {G : mG} {I : Nat → Nat → Int32} {J : Nat → Nat → Int64} {t : Nat} {B : Nat} {σ : aL} (hA : absL I 1 σ) (hW : wfL B σ) {p q v : Nat} (hp : p < 4) (hq : q < 4) (hpq : p ≠ q) (hv : v < 10000) : zC G yX5_fewestCoins (eX5_fewestCoins (g_rmv 4)) [.ref 61, .ref 1, .int (nI p), .int (nI q), .int (nI v)] (mm I J t) (fun r M => ∃ I', r = some (.int (fwA σ p q v)) ∧ M = mm I' J t ∧ ∀ i, (i < 61 ∨ 66 < i) → I' i = I i) := by
  refine zC_of (by decide +kernel) rfl (by decide) (Nat.le_of_ble_eq_true rfl) ?_
  have n10 := hW.1
  show zV G (eX5_fewestCoins (g_rmv 4)) (0, 0) 0 [(0, .ref 61), (1, .ref 1), (2, .int (nI p)), (3, .int (nI q)), (4, .int (nI v))] [] (mm I J t) _
  refine zV_aload_n dX5_fewestCoins_0 rfl 0 rfl rfl ?_
  refine zV_aload_n dX5_fewestCoins_1 rfl 1 rfl rfl ?_
  refine zV_iload_n dX5_fewestCoins_2 rfl 2 rfl rfl ?_
  refine zV_iload_n dX5_fewestCoins_3 rfl 3 rfl rfl ?_
  refine zV_callV (E' := eX5_weigh (g_rmv 3)) (av := [.ref 1, .int (nI p), .int (nI q)]) (st := []) (b := 61) dX5_fewestCoins_4 rfl (k_RX5_66 _) rfl ⟨by decide, by decide⟩ ⟨by decide, by decide⟩ (Or.inl rfl) rfl (Nat.le_of_ble_eq_true rfl) rfl rfl rfl (c_weigh (p := p) (q := q) (Or.inl rfl) hA hW (by omega) (by omega) hpq) (fun r4 M4 z => ?_)
  obtain ⟨I4, rfl, rfl, hN4, hL4, hX4, hF4⟩ := z
  show zV G (eX5_fewestCoins (g_rmv 4)) (0, 0) 7 [(0, .ref 61), (1, .ref 1), (2, .int (nI p)), (3, .int (nI q)), (4, .int (nI v))] [] (mm I4 J t) _
  refine zV_bipush (v := (nI 11)) dX5_fewestCoins_7 rfl rfl ?_
  refine zV_istore (lv' := [(0, .ref 61), (1, .ref 1), (2, .int (nI p)), (3, .int (nI q)), (4, .int (nI v)), (5, .int (nI 11))]) dX5_fewestCoins_9 rfl (by decide) rfl ?_
  refine zV_iconst (v := (nI 0)) dX5_fewestCoins_11 rfl rfl ?_
  refine zV_istore (lv' := [(0, .ref 61), (1, .ref 1), (2, .int (nI p)), (3, .int (nI q)), (4, .int (nI v)), (5, .int (nI 11)), (6, .int (nI 0))]) dX5_fewestCoins_12 rfl (by decide) rfl ?_
  have sl := slc_le (ld_u σ p q) 10
  refine z_for (fun i => zV G (eX5_fewestCoins (g_rmv 4)) (0, 0) 14 [(0, .ref 61), (1, .ref 1), (2, .int (nI p)), (3, .int (nI q)), (4, .int (nI v)), (5, .int (nI (fc (fun n t => if tot σ p q t = nI v then min n (pcnt t) else n) 11 (slf (ld_u σ p q) 10) i))), (6, .int (nI i))] [] (mm I4 J t) _) (slc (ld_u σ p q) 10) ?_ ?_ 0 (Nat.zero_le _)
  · have hfm := fc_min_le (P := fun t => tot σ p q t = nI v) (f := slf (ld_u σ p q) 10) (a := 11) (slc (ld_u σ p q) 10)
    refine zV_iload dX5_fewestCoins_14 rfl 6 rfl ?_
    refine zV_aload_n dX5_fewestCoins_16 rfl 0 rfl rfl ?_
    refine zV_getI (x := (nI (slc (ld_u σ p q) 10))) 2 dX5_fewestCoins_17 rfl fl_RX5_18 rfl (by decide) rfl hN4 ?_
    refine zN_icmp_ge (tgt := 58) dX5_fewestCoins_20 rfl rfl (by omega) (by omega) (fun _ => ?_) (fun z => absurd z (by omega))
    refine zV_iload dX5_fewestCoins_58 rfl 5 rfl ?_
    refine zV_bipush (v := (nI 10)) dX5_fewestCoins_60 rfl rfl ?_
    refine zN_icmp_gt (tgt := 70) dX5_fewestCoins_62 rfl rfl (by omega) (by omega) (fun h62 => ?_) (fun h62 => ?_)
    · refine zV_iconst (v := (-1)) dX5_fewestCoins_70 rfl rfl ?_
      exact zV_ireturn dX5_fewestCoins_71 rfl rfl (⟨_, by rw [fwA, ld_few_c n10, if_neg (Nat.not_le.mpr h62)], rfl, fun i hi => hF4 i hi⟩)
    · refine zV_iload dX5_fewestCoins_65 rfl 5 rfl ?_
      refine zV_goto (tgt := 71) dX5_fewestCoins_67 rfl ?_
      exact zV_ireturn dX5_fewestCoins_71 rfl rfl (⟨_, by rw [fwA, ld_few_c n10, if_pos h62], rfl, fun i hi => hF4 i hi⟩)
  · intro i hi ih
    have hli := slf_lt (ld_u σ p q) 10 i hi
    have hpc := pcnt_le (slf (ld_u σ p q) 10 i)
    have hfm := fc_min_le (P := fun t => tot σ p q t = nI v) (f := slf (ld_u σ p q) 10) (a := 11) i
    refine zV_iload dX5_fewestCoins_14 rfl 6 rfl ?_
    refine zV_aload_n dX5_fewestCoins_16 rfl 0 rfl rfl ?_
    refine zV_getI (x := (nI (slc (ld_u σ p q) 10))) 2 dX5_fewestCoins_17 rfl fl_RX5_18 rfl (by decide) rfl hN4 ?_
    refine zN_icmp_ge (tgt := 58) dX5_fewestCoins_20 rfl rfl (by omega) (by omega) (fun z => absurd z (by omega)) (fun _ => ?_)
    refine zV_aload_n dX5_fewestCoins_23 rfl 0 rfl rfl ?_
    refine zV_getr (q' := 63) 1 dX5_fewestCoins_24 rfl fl_RX5_15 rfl (by decide) rfl rfl ?_
    refine zV_iload dX5_fewestCoins_27 rfl 6 rfl ?_
    refine zV_iald (x := (tot σ p q (slf (ld_u σ p q) 10 i))) i dX5_fewestCoins_29 rfl rfl rfl (by omega) (by decide) ((hL4 i hi).2.trans (tsm_totA hW hpq (slf_sub _ 10 i hi))) ?_
    refine zV_iload dX5_fewestCoins_30 rfl 4 rfl ?_
    refine zV_icmp_ne (tgt := 52) dX5_fewestCoins_32 rfl rfl  (fun h32 => ?_) (fun h32 => ?_)
    · refine zV_iinc (y := (nI (i + 1))) (lv' := [(0, .ref 61), (1, .ref 1), (2, .int (nI p)), (3, .int (nI q)), (4, .int (nI v)), (5, .int (nI (fc (fun n t => if tot σ p q t = nI v then min n (pcnt t) else n) 11 (slf (ld_u σ p q) 10) i))), (6, .int (nI (i + 1)))]) dX5_fewestCoins_52 rfl 6 rfl (nI_1 _) (by decide) rfl ?_
      refine zV_goto (tgt := 14) dX5_fewestCoins_55 rfl ?_
      rw [show fc (fun n t => if tot σ p q t = nI v then min n (pcnt t) else n) 11 (slf (ld_u σ p q) 10) (i + 1) = (fc (fun n t => if tot σ p q t = nI v then min n (pcnt t) else n) 11 (slf (ld_u σ p q) 10) i) from if_neg h32] at ih
      exact ih
    · refine zV_iload dX5_fewestCoins_35 rfl 5 rfl ?_
      refine zV_aload_n dX5_fewestCoins_37 rfl 0 rfl rfl ?_
      refine zV_getr (q' := 62) 0 dX5_fewestCoins_38 rfl fl_RX5_9 rfl (by decide) rfl rfl ?_
      refine zV_iload dX5_fewestCoins_41 rfl 6 rfl ?_
      refine zV_iald (x := (nI (slf (ld_u σ p q) 10 i))) i dX5_fewestCoins_43 rfl rfl rfl (by omega) (by decide) ((hL4 i hi).1) ?_
      refine zV_callS (E' := eJ6_bitCount_0f7a4 (g_rmv 0)) (av := [.int (nI (slf (ld_u σ p q) 10 i))]) (st := [.int (nI (fc (fun n t => if tot σ p q t = nI v then min n (pcnt t) else n) 11 (slf (ld_u σ p q) 10) i))]) dX5_fewestCoins_44 rfl (k_RX5_70 _) rfl ⟨by decide, by decide⟩ ⟨by decide, by decide⟩ (Or.inl rfl) rfl (Nat.le_of_ble_eq_true rfl) (c_bitCount (s := (slf (ld_u σ p q) 10 i)) (by omega)) (fun r44 M44 z => ?_)
      obtain ⟨rfl, rfl⟩ := z
      show zV G (eX5_fewestCoins (g_rmv 4)) (0, 0) 47 [(0, .ref 61), (1, .ref 1), (2, .int (nI p)), (3, .int (nI q)), (4, .int (nI v)), (5, .int (nI (fc (fun n t => if tot σ p q t = nI v then min n (pcnt t) else n) 11 (slf (ld_u σ p q) 10) i))), (6, .int (nI i))] [.int (nI (pcnt (slf (ld_u σ p q) 10 i))), .int (nI (fc (fun n t => if tot σ p q t = nI v then min n (pcnt t) else n) 11 (slf (ld_u σ p q) 10) i))] (mm I4 J t) _
      refine zV_callS (E' := eJ9_min_7cf53 (g_rmv 0)) (av := [.int (nI (fc (fun n t => if tot σ p q t = nI v then min n (pcnt t) else n) 11 (slf (ld_u σ p q) 10) i)), .int (nI (pcnt (slf (ld_u σ p q) 10 i)))]) (st := []) dX5_fewestCoins_47 rfl (k_RX5_75 _) rfl ⟨by decide, by decide⟩ ⟨by decide, by decide⟩ (Or.inl rfl) rfl (Nat.le_of_ble_eq_true rfl) (c_minn (a := (fc (fun n t => if tot σ p q t = nI v then min n (pcnt t) else n) 11 (slf (ld_u σ p q) 10) i)) (b := (pcnt (slf (ld_u σ p q) 10 i))) (by omega) (by omega)) (fun r47 M47 z => ?_)
      obtain ⟨rfl, rfl⟩ := z
      show zV G (eX5_fewestCoins (g_rmv 4)) (0, 0) 50 [(0, .ref 61), (1, .ref 1), (2, .int (nI p)), (3, .int (nI q)), (4, .int (nI v)), (5, .int (nI (fc (fun n t => if tot σ p q t = nI v then min n (pcnt t) else n) 11 (slf (ld_u σ p q) 10) i))), (6, .int (nI i))] [.int (nI (min (fc (fun n t => if tot σ p q t = nI v then min n (pcnt t) else n) 11 (slf (ld_u σ p q) 10) i) (pcnt (slf (ld_u σ p q) 10 i))))] (mm I4 J t) _
      refine zV_istore (lv' := [(0, .ref 61), (1, .ref 1), (2, .int (nI p)), (3, .int (nI q)), (4, .int (nI v)), (5, .int (nI (min (fc (fun n t => if tot σ p q t = nI v then min n (pcnt t) else n) 11 (slf (ld_u σ p q) 10) i) (pcnt (slf (ld_u σ p q) 10 i))))), (6, .int (nI i))]) dX5_fewestCoins_50 rfl (by decide) rfl ?_
      refine zV_iinc (y := (nI (i + 1))) (lv' := [(0, .ref 61), (1, .ref 1), (2, .int (nI p)), (3, .int (nI q)), (4, .int (nI v)), (5, .int (nI (min (fc (fun n t => if tot σ p q t = nI v then min n (pcnt t) else n) 11 (slf (ld_u σ p q) 10) i) (pcnt (slf (ld_u σ p q) 10 i))))), (6, .int (nI (i + 1)))]) dX5_fewestCoins_52 rfl 6 rfl (nI_1 _) (by decide) rfl ?_
      refine zV_goto (tgt := 14) dX5_fewestCoins_55 rfl ?_
      rw [show fc (fun n t => if tot σ p q t = nI v then min n (pcnt t) else n) 11 (slf (ld_u σ p q) 10) (i + 1) = (min (fc (fun n t => if tot σ p q t = nI v then min n (pcnt t) else n) 11 (slf (ld_u σ p q) 10) i) (pcnt (slf (ld_u σ p q) 10 i))) from if_pos h32] at ih
      exact ih

set_option maxRecDepth 100000 in
theorem p_fewest {G : mG} {I : Nat → Nat → Int32} {J : Nat → Nat → Int64} {t : Nat} {B : Nat} {S : aS} (hC : InvC I S) (hw : wfS B S) {x y z : Int32} : zC G yX6_fewest (eX6_fewest (g_rmv 5)) [.ref 0, .int x, .int y, .int z] (mm I J t) (fun r M => PC I (op_fewest S x y z) r M) := by
  refine zC_of (by decide +kernel) rfl (by decide) (Nat.le_of_ble_eq_true rfl) ?_
  have n10 := hw.1.1
  show zV G (eX6_fewest (g_rmv 5)) (0, 0) 0 [(0, .ref 0), (1, .int x), (2, .int y), (3, .int z)] [] (mm I J t) _
  refine zV_iload_n dX6_fewest_0 rfl 1 rfl rfl ?_
  refine zV_iload_n dX6_fewest_1 rfl 2 rfl rfl ?_
  refine zV_callS (E' := eX6_areTwoPurses (g_rmv 2)) (av := [.int x, .int y]) (st := []) dX6_fewest_2 rfl (k_RX6_142 _) rfl ⟨by decide, by decide⟩ ⟨by decide, by decide⟩ (Or.inl rfl) rfl (Nat.le_of_ble_eq_true rfl) (c_two (x := x) (y := y)) (fun r2 M2 z => ?_)
  obtain ⟨rfl, rfl⟩ := z
  show zV G (eX6_fewest (g_rmv 5)) (0, 0) 5 [(0, .ref 0), (1, .int x), (2, .int y), (3, .int z)] [.int (b2 (twoP x y))] (mm I J t) _
  refine zB_if_eq (tgt := 18) dX6_fewest_5 rfl rfl  (fun h5 => ?_) (fun h5 => ?_)
  · refine zV_aload_n dX6_fewest_18 rfl 0 rfl rfl ?_
    refine zV_ldc (v := (-1000001)) dX6_fewest_19 rfl tw264 ?_
    refine zV_callV (E' := eX6_tell (g_rmv 1)) (av := [.int (-1000001)]) (st := []) (b := 0) dX6_fewest_21 rfl (k_RX6_70 _) rfl ⟨by decide, by decide⟩ ⟨by decide, by decide⟩ (Or.inl rfl) rfl (Nat.le_of_ble_eq_true rfl) rfl rfl rfl (c_tell (w := 0) (by decide) (by decide)) (fun r21 M21 z => ?_)
    obtain ⟨rfl, rfl⟩ := z
    show zV G (eX6_fewest (g_rmv 5)) (0, 0) 24 [(0, .ref 0), (1, .int x), (2, .int y), (3, .int z)] [.int (fdg 0)] (mm (up2 I 67 0 (I 67 0 + nI 1)) J t) _
    exact zV_ireturn dX6_fewest_24 rfl rfl (PC.tell hC hw (by unfold op_fewest; rw [if_neg h5]) (fun _ _ => rfl))
  · refine zV_iload_n dX6_fewest_8 rfl 3 rfl rfl ?_
    refine zV_sipush (v := (nI 999)) dX6_fewest_9 rfl rfl ?_
    refine zV_callS (E' := eX6_isWithin (g_rmv 0)) (av := [.int z, .int (nI 999)]) (st := []) dX6_fewest_12 rfl (k_RX6_65 _) rfl ⟨by decide, by decide⟩ ⟨by decide, by decide⟩ (Or.inl rfl) rfl (Nat.le_of_ble_eq_true rfl) (c_isWithin (x := z) (y := (nI 999))) (fun r12 M12 z => ?_)
    obtain ⟨rfl, rfl⟩ := z
    show zV G (eX6_fewest (g_rmv 5)) (0, 0) 15 [(0, .ref 0), (1, .int x), (2, .int y), (3, .int z)] [.int (b2 (0 ≤ z ∧ z ≤ (nI 999)))] (mm I J t) _
    refine zB_if_ne (tgt := 25) dX6_fewest_15 rfl rfl  (fun h15 => ?_) (fun h15 => ?_)
    · obtain ⟨p, q, hp, hq, hpq, rfl, rfl⟩ := z_two h5
      obtain ⟨v, hv, rfl⟩ := (inR_iff (by decide)).mp h15
      refine zV_aload_n dX6_fewest_25 rfl 0 rfl rfl ?_
      refine zV_getr (q' := 61) 9 dX6_fewest_26 rfl fl_RX6_57 rfl (by decide) rfl rfl ?_
      refine zV_aload_n dX6_fewest_29 rfl 0 rfl rfl ?_
      refine zV_getr (q' := 1) 0 dX6_fewest_30 rfl fl_RX6_12 rfl (by decide) rfl rfl ?_
      refine zV_iload_n dX6_fewest_33 rfl 1 rfl rfl ?_
      refine zV_iload_n dX6_fewest_34 rfl 2 rfl rfl ?_
      refine zV_iload_n dX6_fewest_35 rfl 3 rfl rfl ?_
      refine zV_callV (E' := eX5_fewestCoins (g_rmv 4)) (av := [.ref 1, .int (nI p), .int (nI q), .int (nI v)]) (st := []) (b := 61) dX6_fewest_36 rfl (k_RX6_184 _) rfl ⟨by decide, by decide⟩ ⟨by decide, by decide⟩ (Or.inl rfl) rfl (Nat.le_of_ble_eq_true rfl) rfl rfl rfl (c_fewest (p := p) (q := q) (v := v) hC.1 hw.1 hp hq hpq (by omega)) (fun r36 M36 z => ?_)
      obtain ⟨I36, rfl, rfl, hF36⟩ := z
      show zV G (eX6_fewest (g_rmv 5)) (0, 0) 39 [(0, .ref 0), (1, .int (nI p)), (2, .int (nI q)), (3, .int (nI v))] [.int (fwA S.1 p q v)] (mm I36 J t) _
      refine zV_istore (lv' := [(0, .ref 0), (1, .int (nI p)), (2, .int (nI q)), (3, .int (nI v)), (4, .int (fwA S.1 p q v))]) dX6_fewest_39 rfl (by decide) rfl ?_
      by_cases hf : ld_few S.1 p q v ≤ 10
      · rw [show fwA S.1 p q v = (nI (ld_few S.1 p q v)) from if_pos hf]
        show zV G (eX6_fewest (g_rmv 5)) (0, 0) 41 [(0, .ref 0), (1, .int (nI p)), (2, .int (nI q)), (3, .int (nI v)), (4, .int (nI (ld_few S.1 p q v)))] [] (mm I36 J t) _
        refine zV_iload dX6_fewest_41 rfl 4 rfl ?_
        refine zN_if_lt (tgt := 51) dX6_fewest_43 rfl (by omega) rfl ?_
        refine zV_iload dX6_fewest_46 rfl 4 rfl ?_
        refine zV_goto (tgt := 57) dX6_fewest_48 rfl ?_
        exact zV_ireturn dX6_fewest_57 rfl rfl (PC.same hC hw (by unfold op_fewest; rw [if_pos h5, if_pos h15, tn_nI (show p < 2 ^ 31 by omega), tn_nI (show q < 2 ^ 31 by omega), tn_nI (show v < 2 ^ 31 by omega), if_pos hf]) (fun i hi => hF36 i (by unfold scr at hi; omega)))
      · rw [show fwA S.1 p q v = (-1) from if_neg hf]
        show zV G (eX6_fewest (g_rmv 5)) (0, 0) 41 [(0, .ref 0), (1, .int (nI p)), (2, .int (nI q)), (3, .int (nI v)), (4, .int (-1))] [] (mm I36 J t) _
        refine zV_iload dX6_fewest_41 rfl 4 rfl ?_
        refine zV_if_lt (tgt := 51) dX6_fewest_43 rfl rfl  (fun _ => ?_) (fun z => absurd z (by decide))
        refine zV_aload_n dX6_fewest_51 rfl 0 rfl rfl ?_
        refine zV_ldc (v := (-1000004)) dX6_fewest_52 rfl tw424 ?_
        refine zV_callV (E' := eX6_tell (g_rmv 1)) (av := [.int (-1000004)]) (st := []) (b := 0) dX6_fewest_54 rfl (k_RX6_70 _) rfl ⟨by decide, by decide⟩ ⟨by decide, by decide⟩ (Or.inl rfl) rfl (Nat.le_of_ble_eq_true rfl) rfl rfl rfl (c_tell (w := 3) (by decide) (by decide)) (fun r54 M54 z => ?_)
        obtain ⟨rfl, rfl⟩ := z
        show zV G (eX6_fewest (g_rmv 5)) (0, 0) 57 [(0, .ref 0), (1, .int (nI p)), (2, .int (nI q)), (3, .int (nI v)), (4, .int (-1))] [.int (fdg 3)] (mm (up2 I36 67 3 (I36 67 3 + nI 1)) J t) _
        exact zV_ireturn dX6_fewest_57 rfl rfl (PC.tell (hC.mv hw (fun i a _ => hF36 i (by unfold scr at a; omega))) hw (by unfold op_fewest; rw [if_pos h5, if_pos h15, tn_nI (show p < 2 ^ 31 by omega), tn_nI (show q < 2 ^ 31 by omega), tn_nI (show v < 2 ^ 31 by omega), if_neg hf]) (fun i hi => hF36 i (by omega)))
    · refine zV_aload_n dX6_fewest_18 rfl 0 rfl rfl ?_
      refine zV_ldc (v := (-1000001)) dX6_fewest_19 rfl tw264 ?_
      refine zV_callV (E' := eX6_tell (g_rmv 1)) (av := [.int (-1000001)]) (st := []) (b := 0) dX6_fewest_21 rfl (k_RX6_70 _) rfl ⟨by decide, by decide⟩ ⟨by decide, by decide⟩ (Or.inl rfl) rfl (Nat.le_of_ble_eq_true rfl) rfl rfl rfl (c_tell (w := 0) (by decide) (by decide)) (fun r21 M21 z => ?_)
      obtain ⟨rfl, rfl⟩ := z
      show zV G (eX6_fewest (g_rmv 5)) (0, 0) 24 [(0, .ref 0), (1, .int x), (2, .int y), (3, .int z)] [.int (fdg 0)] (mm (up2 I 67 0 (I 67 0 + nI 1)) J t) _
      exact zV_ireturn dX6_fewest_24 rfl rfl (PC.tell hC hw (by unfold op_fewest; rw [if_pos h5, if_neg h15]) (fun _ _ => rfl))

set_option maxRecDepth 100000 in
theorem q_fewest {G : mG} {I : Nat → Nat → Int32} {J : Nat → Nat → Int64} {t : Nat} {B : Nat} {S : aS} (hM : InvM I S) (hw : wfS B S) {x y z : Int32} : zC G yX7_fewest (eX7_fewest (g_rmv 5)) [.ref 76, .int x, .int y, .int z] (mm I J t) (fun r M => PM I (op_fewest S x y z) r M) := by
  refine zC_of (by decide +kernel) rfl (by decide) (Nat.le_of_ble_eq_true rfl) ?_
  have n10 := hw.1.1
  show zV G (eX7_fewest (g_rmv 5)) (0, 0) 0 [(0, .ref 76), (1, .int x), (2, .int y), (3, .int z)] [] (mm I J t) _
  refine zV_iload_n dX7_fewest_0 rfl 1 rfl rfl ?_
  refine zV_iload_n dX7_fewest_1 rfl 2 rfl rfl ?_
  refine zV_callS (E' := eX7_areTwo (g_rmv 2)) (av := [.int x, .int y]) (st := []) dX7_fewest_2 rfl (k_RX7_159 _) rfl ⟨by decide, by decide⟩ ⟨by decide, by decide⟩ (Or.inl rfl) rfl (Nat.le_of_ble_eq_true rfl) (m_two (x := x) (y := y)) (fun r2 M2 z => ?_)
  obtain ⟨rfl, rfl⟩ := z
  show zV G (eX7_fewest (g_rmv 5)) (0, 0) 5 [(0, .ref 76), (1, .int x), (2, .int y), (3, .int z)] [.int (b2 (twoP x y))] (mm I J t) _
  refine zB_if_eq (tgt := 15) dX7_fewest_5 rfl rfl  (fun h5 => ?_) (fun h5 => ?_)
  · refine zV_aload_n dX7_fewest_15 rfl 0 rfl rfl ?_
    refine zV_ldc (v := (-1000001)) dX7_fewest_16 rfl tw970 ?_
    refine zV_callV (E' := eX7_finding (g_rmv 0)) (av := [.int (-1000001)]) (st := []) (b := 76) dX7_fewest_18 rfl (k_RX7_87 _) rfl ⟨by decide, by decide⟩ ⟨by decide, by decide⟩ (Or.inl rfl) rfl (Nat.le_of_ble_eq_true rfl) rfl rfl rfl (m_finding (w := 0) (by decide) (by decide)) (fun r18 M18 z => ?_)
    obtain ⟨rfl, rfl⟩ := z
    show zV G (eX7_fewest (g_rmv 5)) (0, 0) 21 [(0, .ref 76), (1, .int x), (2, .int y), (3, .int z)] [.int (fdg 0)] (mm (mTell I 0) J t) _
    exact zV_ireturn dX7_fewest_21 rfl rfl (PM.tell hM (by decide) (by unfold op_fewest; rw [if_neg h5]) scM.rf)
  · refine zV_iload_n dX7_fewest_8 rfl 3 rfl rfl ?_
    refine zV_callS (E' := eX7_isSum (g_rmv 1)) (av := [.int z]) (st := []) dX7_fewest_9 rfl (k_RX7_166 _) rfl ⟨by decide, by decide⟩ ⟨by decide, by decide⟩ (Or.inl rfl) rfl (Nat.le_of_ble_eq_true rfl) (m_isSum (x := z)) (fun r9 M9 z => ?_)
    obtain ⟨rfl, rfl⟩ := z
    show zV G (eX7_fewest (g_rmv 5)) (0, 0) 12 [(0, .ref 76), (1, .int x), (2, .int y), (3, .int z)] [.int (b2 (inR z 999))] (mm I J t) _
    refine zB_if_ne (tgt := 22) dX7_fewest_12 rfl rfl  (fun h12 => ?_) (fun h12 => ?_)
    · obtain ⟨p, q, hp, hq, hpq, rfl, rfl⟩ := z_two h5
      obtain ⟨v, hv, rfl⟩ := (inR_iff (by decide)).mp h12
      refine zV_aload_n dX7_fewest_22 rfl 0 rfl rfl ?_
      refine zV_iload_n dX7_fewest_23 rfl 1 rfl rfl ?_
      refine zV_callV (E' := eX7_setOf (g_rmv 2)) (av := [.int (nI p)]) (st := []) (b := 76) dX7_fewest_24 rfl (k_RX7_139 _) rfl ⟨by decide, by decide⟩ ⟨by decide, by decide⟩ (Or.inl rfl) rfl (Nat.le_of_ble_eq_true rfl) rfl rfl rfl (m_setOf (p := p) hM.1 hw.1 (by omega)) (fun r24 M24 z => ?_)
      obtain ⟨rfl, rfl⟩ := z
      show zV G (eX7_fewest (g_rmv 5)) (0, 0) 27 [(0, .ref 76), (1, .int (nI p)), (2, .int (nI q)), (3, .int (nI v))] [.int (nI (ld_in S.1 p))] (mm I J t) _
      refine zV_istore (lv' := [(0, .ref 76), (1, .int (nI p)), (2, .int (nI q)), (3, .int (nI v)), (4, .int (nI (ld_in S.1 p)))]) dX7_fewest_27 rfl (by decide) rfl ?_
      refine zV_aload_n dX7_fewest_29 rfl 0 rfl rfl ?_
      refine zV_iload_n dX7_fewest_30 rfl 2 rfl rfl ?_
      refine zV_callV (E' := eX7_setOf (g_rmv 2)) (av := [.int (nI q)]) (st := []) (b := 76) dX7_fewest_31 rfl (k_RX7_139 _) rfl ⟨by decide, by decide⟩ ⟨by decide, by decide⟩ (Or.inl rfl) rfl (Nat.le_of_ble_eq_true rfl) rfl rfl rfl (m_setOf (p := q) hM.1 hw.1 (by omega)) (fun r31 M31 z => ?_)
      obtain ⟨rfl, rfl⟩ := z
      show zV G (eX7_fewest (g_rmv 5)) (0, 0) 34 [(0, .ref 76), (1, .int (nI p)), (2, .int (nI q)), (3, .int (nI v)), (4, .int (nI (ld_in S.1 p)))] [.int (nI (ld_in S.1 q))] (mm I J t) _
      refine zV_istore (lv' := [(0, .ref 76), (1, .int (nI p)), (2, .int (nI q)), (3, .int (nI v)), (4, .int (nI (ld_in S.1 p))), (5, .int (nI (ld_in S.1 q)))]) dX7_fewest_34 rfl (by decide) rfl ?_
      refine zV_bipush (v := (nI 11)) dX7_fewest_36 rfl rfl ?_
      refine zV_istore (lv' := [(0, .ref 76), (1, .int (nI p)), (2, .int (nI q)), (3, .int (nI v)), (4, .int (nI (ld_in S.1 p))), (5, .int (nI (ld_in S.1 q))), (6, .int (nI 11))]) dX7_fewest_38 rfl (by decide) rfl ?_
      refine zV_iconst (v := (nI 0)) dX7_fewest_40 rfl rfl ?_
      refine zV_istore (lv' := [(0, .ref 76), (1, .int (nI p)), (2, .int (nI q)), (3, .int (nI v)), (4, .int (nI (ld_in S.1 p))), (5, .int (nI (ld_in S.1 q))), (6, .int (nI 11)), (7, .int (nI 0))]) dX7_fewest_41 rfl (by decide) rfl ?_
      have hu1024 := ld_u_lt n10 p q
      refine z_for (fun c => zV G (eX7_fewest (g_rmv 5)) (0, 0) 43 [(0, .ref 76), (1, .int (nI p)), (2, .int (nI q)), (3, .int (nI v)), (4, .int (nI (ld_in S.1 p))), (5, .int (nI (ld_in S.1 q))), (6, .int (nI (fo (fun n t => if tot S.1 p q t = nI v then min n (pcnt t) else n) 11 (ld_u S.1 p q) c))), (7, .int (nI c))] [] (mm I J t) _) ((ld_u S.1 p q) + 1) ?_ ?_ 0 (Nat.zero_le _)
      · have hfm := fo_min_le (P := fun t => tot S.1 p q t = nI v) (s := (ld_u S.1 p q)) (a := 11) ((ld_u S.1 p q) + 1)
        refine zV_iload dX7_fewest_43 rfl 7 rfl ?_
        refine zV_iload dX7_fewest_45 rfl 4 rfl ?_
        refine zV_iload dX7_fewest_47 rfl 5 rfl ?_
        refine zA_ior (z := (nI (ld_u S.1 p q))) dX7_fewest_49 rfl  (fa_or _ _) ?_
        refine zN_icmp_gt (tgt := 124) dX7_fewest_50 rfl rfl (by omega) (by omega) (fun _ => ?_) (fun z => absurd z (by omega))
        refine zV_iload dX7_fewest_124 rfl 6 rfl ?_
        refine zV_bipush (v := (nI 10)) dX7_fewest_126 rfl rfl ?_
        refine zN_icmp_le (tgt := 140) dX7_fewest_128 rfl rfl (by omega) (by omega) (fun h128 => ?_) (fun h128 => ?_)
        · refine zV_iload dX7_fewest_140 rfl 6 rfl ?_
          exact zV_ireturn dX7_fewest_142 rfl rfl (PM.same hM (by unfold op_fewest; rw [if_pos h5, if_pos h12, tn_nI (show p < 2 ^ 31 by omega), tn_nI (show q < 2 ^ 31 by omega), tn_nI (show v < 2 ^ 31 by omega), show ld_few S.1 p q v = fo (fun n t => if tot S.1 p q t = nI v then min n (pcnt t) else n) 11 (ld_u S.1 p q) ((ld_u S.1 p q) + 1) from rfl, if_pos h128]) scM.rf)
        · refine zV_aload_n dX7_fewest_131 rfl 0 rfl rfl ?_
          refine zV_ldc (v := (-1000004)) dX7_fewest_132 rfl tw1107 ?_
          refine zV_callV (E' := eX7_finding (g_rmv 0)) (av := [.int (-1000004)]) (st := []) (b := 76) dX7_fewest_134 rfl (k_RX7_87 _) rfl ⟨by decide, by decide⟩ ⟨by decide, by decide⟩ (Or.inl rfl) rfl (Nat.le_of_ble_eq_true rfl) rfl rfl rfl (m_finding (w := 3) (by decide) (by decide)) (fun r134 M134 z => ?_)
          obtain ⟨rfl, rfl⟩ := z
          show zV G (eX7_fewest (g_rmv 5)) (0, 0) 137 [(0, .ref 76), (1, .int (nI p)), (2, .int (nI q)), (3, .int (nI v)), (4, .int (nI (ld_in S.1 p))), (5, .int (nI (ld_in S.1 q))), (6, .int (nI (fo (fun n t => if tot S.1 p q t = nI v then min n (pcnt t) else n) 11 (ld_u S.1 p q) ((ld_u S.1 p q) + 1)))), (7, .int (nI ((ld_u S.1 p q) + 1)))] [.int (fdg 3)] (mm (mTell I 3) J t) _
          refine zV_goto (tgt := 142) dX7_fewest_137 rfl ?_
          exact zV_ireturn dX7_fewest_142 rfl rfl (PM.tell hM (by decide) (by unfold op_fewest; rw [if_pos h5, if_pos h12, tn_nI (show p < 2 ^ 31 by omega), tn_nI (show q < 2 ^ 31 by omega), tn_nI (show v < 2 ^ 31 by omega), show ld_few S.1 p q v = fo (fun n t => if tot S.1 p q t = nI v then min n (pcnt t) else n) 11 (ld_u S.1 p q) ((ld_u S.1 p q) + 1) from rfl, if_neg (Nat.not_le.mpr h128)]) scM.rf)
      · intro c hc ih
        have hpc := pcnt_le c
        have hfm := fo_min_le (P := fun t => tot S.1 p q t = nI v) (s := (ld_u S.1 p q)) (a := 11) c
        refine zV_iload dX7_fewest_43 rfl 7 rfl ?_
        refine zV_iload dX7_fewest_45 rfl 4 rfl ?_
        refine zV_iload dX7_fewest_47 rfl 5 rfl ?_
        refine zA_ior (z := (nI (ld_u S.1 p q))) dX7_fewest_49 rfl  (fa_or _ _) ?_
        refine zN_icmp_gt (tgt := 124) dX7_fewest_50 rfl rfl (by omega) (by omega) (fun z => absurd z (by omega)) (fun _ => ?_)
        refine zV_iload dX7_fewest_53 rfl 7 rfl ?_
        refine zV_iload dX7_fewest_55 rfl 4 rfl ?_
        refine zV_iload dX7_fewest_57 rfl 5 rfl ?_
        refine zA_ior (z := (nI (ld_u S.1 p q))) dX7_fewest_59 rfl  (fa_or _ _) ?_
        refine zV_iconst (v := (-1)) dX7_fewest_60 rfl rfl ?_
        refine zA_ixor (z := ((nI (ld_u S.1 p q)) ^^^ (-1))) dX7_fewest_61 rfl  (rfl) ?_
        refine zA_iand (z := (nI c &&& (nI (ld_u S.1 p q) ^^^ (-1)))) dX7_fewest_62 rfl  (rfl) ?_
        refine zV_if_ne (tgt := 93) dX7_fewest_63 rfl rfl  (fun h63 => ?_) (fun h63 => ?_)
        · have hnb := fun z => h63 ((z_sub (by omega) (by omega)).mpr z)
          refine zV_iconst (v := (nI 0)) dX7_fewest_93 rfl rfl ?_
          refine zV_istore (lv' := [(0, .ref 76), (1, .int (nI p)), (2, .int (nI q)), (3, .int (nI v)), (4, .int (nI (ld_in S.1 p))), (5, .int (nI (ld_in S.1 q))), (6, .int (nI (fo (fun n t => if tot S.1 p q t = nI v then min n (pcnt t) else n) 11 (ld_u S.1 p q) c))), (7, .int (nI c)), (8, .int (nI 0))]) dX7_fewest_94 rfl (by decide) rfl ?_
          refine zV_iload dX7_fewest_96 rfl 8 rfl ?_
          refine zN_if_eq (tgt := 114) dX7_fewest_98 rfl rfl (by decide) (fun _ => ?_) (fun z => absurd z (by decide))
          refine zV_iload dX7_fewest_114 rfl 6 rfl ?_
          refine zV_istore (lv' := [(0, .ref 76), (1, .int (nI p)), (2, .int (nI q)), (3, .int (nI v)), (4, .int (nI (ld_in S.1 p))), (5, .int (nI (ld_in S.1 q))), (6, .int (nI (fo (fun n t => if tot S.1 p q t = nI v then min n (pcnt t) else n) 11 (ld_u S.1 p q) c))), (7, .int (nI c)), (8, .int (nI 0))]) dX7_fewest_116 rfl (by decide) rfl ?_
          refine zV_iinc (y := (nI (c + 1))) (lv' := [(0, .ref 76), (1, .int (nI p)), (2, .int (nI q)), (3, .int (nI v)), (4, .int (nI (ld_in S.1 p))), (5, .int (nI (ld_in S.1 q))), (6, .int (nI (fo (fun n t => if tot S.1 p q t = nI v then min n (pcnt t) else n) 11 (ld_u S.1 p q) c))), (7, .int (nI (c + 1))), (8, .int (nI 0))]) dX7_fewest_118 rfl 7 rfl (nI_1 _) (by decide) rfl ?_
          refine zV_goto (tgt := 43) dX7_fewest_121 rfl ?_
          refine zV_keep (lv' := [(0, .ref 76), (1, .int (nI p)), (2, .int (nI q)), (3, .int (nI v)), (4, .int (nI (ld_in S.1 p))), (5, .int (nI (ld_in S.1 q))), (6, .int (nI (fo (fun n t => if tot S.1 p q t = nI v then min n (pcnt t) else n) 11 (ld_u S.1 p q) c))), (7, .int (nI (c + 1)))]) [0, 1, 2, 3, 4, 5, 6, 7] rfl ?_
          rw [show fo (fun n t => if tot S.1 p q t = nI v then min n (pcnt t) else n) 11 (ld_u S.1 p q) (c + 1) = (fo (fun n t => if tot S.1 p q t = nI v then min n (pcnt t) else n) 11 (ld_u S.1 p q) c) from if_neg hnb] at ih
          exact ih
        · have hsb := (z_sub (by omega) (by omega)).mp h63
          refine zV_aload_n dX7_fewest_66 rfl 0 rfl rfl ?_
          refine zV_iload dX7_fewest_67 rfl 7 rfl ?_
          refine zV_iload dX7_fewest_69 rfl 4 rfl ?_
          refine zA_iand (z := (nI (c &&& (ld_in S.1 p)))) dX7_fewest_71 rfl  (fa_and _ _) ?_
          refine zV_callV (E' := eX7_sumOf (g_rmv 4)) (av := [.int (nI (c &&& (ld_in S.1 p)))]) (st := []) (b := 76) dX7_fewest_72 rfl (k_RX7_142 _) rfl ⟨by decide, by decide⟩ ⟨by decide, by decide⟩ (Or.inl rfl) rfl (Nat.le_of_ble_eq_true rfl) rfl rfl rfl (m_sumOf (s := (c &&& (ld_in S.1 p))) hM.1 hw.1 (Nat.lt_of_le_of_lt Nat.and_le_left (by omega))) (fun r72 M72 z => ?_)
          obtain ⟨rfl, rfl⟩ := z
          show zV G (eX7_fewest (g_rmv 5)) (0, 0) 75 [(0, .ref 76), (1, .int (nI p)), (2, .int (nI q)), (3, .int (nI v)), (4, .int (nI (ld_in S.1 p))), (5, .int (nI (ld_in S.1 q))), (6, .int (nI (fo (fun n t => if tot S.1 p q t = nI v then min n (pcnt t) else n) 11 (ld_u S.1 p q) c))), (7, .int (nI c))] [.int (nI (ld_sum S.1 (c &&& (ld_in S.1 p))))] (mm I J t) _
          refine zV_aload_n dX7_fewest_75 rfl 0 rfl rfl ?_
          refine zV_iload dX7_fewest_76 rfl 7 rfl ?_
          refine zV_iload dX7_fewest_78 rfl 5 rfl ?_
          refine zA_iand (z := (nI (c &&& (ld_in S.1 q)))) dX7_fewest_80 rfl  (fa_and _ _) ?_
          refine zV_callV (E' := eX7_sumOf (g_rmv 4)) (av := [.int (nI (c &&& (ld_in S.1 q)))]) (st := [.int (nI (ld_sum S.1 (c &&& (ld_in S.1 p))))]) (b := 76) dX7_fewest_81 rfl (k_RX7_142 _) rfl ⟨by decide, by decide⟩ ⟨by decide, by decide⟩ (Or.inl rfl) rfl (Nat.le_of_ble_eq_true rfl) rfl rfl rfl (m_sumOf (s := (c &&& (ld_in S.1 q))) hM.1 hw.1 (Nat.lt_of_le_of_lt Nat.and_le_left (by omega))) (fun r81 M81 z => ?_)
          obtain ⟨rfl, rfl⟩ := z
          show zV G (eX7_fewest (g_rmv 5)) (0, 0) 84 [(0, .ref 76), (1, .int (nI p)), (2, .int (nI q)), (3, .int (nI v)), (4, .int (nI (ld_in S.1 p))), (5, .int (nI (ld_in S.1 q))), (6, .int (nI (fo (fun n t => if tot S.1 p q t = nI v then min n (pcnt t) else n) 11 (ld_u S.1 p q) c))), (7, .int (nI c))] [.int (nI (ld_sum S.1 (c &&& (ld_in S.1 q)))), .int (nI (ld_sum S.1 (c &&& (ld_in S.1 p))))] (mm I J t) _
          refine zA_isub (z := (tot S.1 p q c)) dX7_fewest_84 rfl  (rfl) ?_
          refine zV_iload_n dX7_fewest_85 rfl 3 rfl rfl ?_
          refine zV_icmp_ne (tgt := 93) dX7_fewest_86 rfl rfl  (fun h86 => ?_) (fun h86 => ?_)
          · skip
            refine zV_iconst (v := (nI 0)) dX7_fewest_93 rfl rfl ?_
            refine zV_istore (lv' := [(0, .ref 76), (1, .int (nI p)), (2, .int (nI q)), (3, .int (nI v)), (4, .int (nI (ld_in S.1 p))), (5, .int (nI (ld_in S.1 q))), (6, .int (nI (fo (fun n t => if tot S.1 p q t = nI v then min n (pcnt t) else n) 11 (ld_u S.1 p q) c))), (7, .int (nI c)), (8, .int (nI 0))]) dX7_fewest_94 rfl (by decide) rfl ?_
            refine zV_iload dX7_fewest_96 rfl 8 rfl ?_
            refine zN_if_eq (tgt := 114) dX7_fewest_98 rfl rfl (by decide) (fun _ => ?_) (fun z => absurd z (by decide))
            refine zV_iload dX7_fewest_114 rfl 6 rfl ?_
            refine zV_istore (lv' := [(0, .ref 76), (1, .int (nI p)), (2, .int (nI q)), (3, .int (nI v)), (4, .int (nI (ld_in S.1 p))), (5, .int (nI (ld_in S.1 q))), (6, .int (nI (fo (fun n t => if tot S.1 p q t = nI v then min n (pcnt t) else n) 11 (ld_u S.1 p q) c))), (7, .int (nI c)), (8, .int (nI 0))]) dX7_fewest_116 rfl (by decide) rfl ?_
            refine zV_iinc (y := (nI (c + 1))) (lv' := [(0, .ref 76), (1, .int (nI p)), (2, .int (nI q)), (3, .int (nI v)), (4, .int (nI (ld_in S.1 p))), (5, .int (nI (ld_in S.1 q))), (6, .int (nI (fo (fun n t => if tot S.1 p q t = nI v then min n (pcnt t) else n) 11 (ld_u S.1 p q) c))), (7, .int (nI (c + 1))), (8, .int (nI 0))]) dX7_fewest_118 rfl 7 rfl (nI_1 _) (by decide) rfl ?_
            refine zV_goto (tgt := 43) dX7_fewest_121 rfl ?_
            refine zV_keep (lv' := [(0, .ref 76), (1, .int (nI p)), (2, .int (nI q)), (3, .int (nI v)), (4, .int (nI (ld_in S.1 p))), (5, .int (nI (ld_in S.1 q))), (6, .int (nI (fo (fun n t => if tot S.1 p q t = nI v then min n (pcnt t) else n) 11 (ld_u S.1 p q) c))), (7, .int (nI (c + 1)))]) [0, 1, 2, 3, 4, 5, 6, 7] rfl ?_
            rw [show fo (fun n t => if tot S.1 p q t = nI v then min n (pcnt t) else n) 11 (ld_u S.1 p q) (c + 1) = (fo (fun n t => if tot S.1 p q t = nI v then min n (pcnt t) else n) 11 (ld_u S.1 p q) c) from (if_pos hsb).trans (if_neg h86)] at ih
            exact ih
          · skip
            refine zV_iconst (v := (nI 1)) dX7_fewest_89 rfl rfl ?_
            refine zV_goto (tgt := 94) dX7_fewest_90 rfl ?_
            refine zV_istore (lv' := [(0, .ref 76), (1, .int (nI p)), (2, .int (nI q)), (3, .int (nI v)), (4, .int (nI (ld_in S.1 p))), (5, .int (nI (ld_in S.1 q))), (6, .int (nI (fo (fun n t => if tot S.1 p q t = nI v then min n (pcnt t) else n) 11 (ld_u S.1 p q) c))), (7, .int (nI c)), (8, .int (nI 1))]) dX7_fewest_94 rfl (by decide) rfl ?_
            refine zV_iload dX7_fewest_96 rfl 8 rfl ?_
            refine zN_if_eq (tgt := 114) dX7_fewest_98 rfl rfl (by decide) (fun z => absurd z (by decide)) (fun _ => ?_)
            refine zV_iload dX7_fewest_101 rfl 6 rfl ?_
            refine zV_iload dX7_fewest_103 rfl 7 rfl ?_
            refine zV_callS (E' := eX7_bits (g_rmv 0)) (av := [.int (nI c)]) (st := [.int (nI (fo (fun n t => if tot S.1 p q t = nI v then min n (pcnt t) else n) 11 (ld_u S.1 p q) c))]) dX7_fewest_105 rfl (k_RX7_186 _) rfl ⟨by decide, by decide⟩ ⟨by decide, by decide⟩ (Or.inl rfl) rfl (Nat.le_of_ble_eq_true rfl) (m_bits (s := c) (by omega)) (fun r105 M105 z => ?_)
            obtain ⟨rfl, rfl⟩ := z
            show zV G (eX7_fewest (g_rmv 5)) (0, 0) 108 [(0, .ref 76), (1, .int (nI p)), (2, .int (nI q)), (3, .int (nI v)), (4, .int (nI (ld_in S.1 p))), (5, .int (nI (ld_in S.1 q))), (6, .int (nI (fo (fun n t => if tot S.1 p q t = nI v then min n (pcnt t) else n) 11 (ld_u S.1 p q) c))), (7, .int (nI c)), (8, .int (nI 1))] [.int (nI (pcnt c)), .int (nI (fo (fun n t => if tot S.1 p q t = nI v then min n (pcnt t) else n) 11 (ld_u S.1 p q) c))] (mm I J t) _
            refine zV_callS (E' := eJ9_min_7cf53 (g_rmv 0)) (av := [.int (nI (fo (fun n t => if tot S.1 p q t = nI v then min n (pcnt t) else n) 11 (ld_u S.1 p q) c)), .int (nI (pcnt c))]) (st := []) dX7_fewest_108 rfl (k_RX7_205 _) rfl ⟨by decide, by decide⟩ ⟨by decide, by decide⟩ (Or.inl rfl) rfl (Nat.le_of_ble_eq_true rfl) (c_minn (a := (fo (fun n t => if tot S.1 p q t = nI v then min n (pcnt t) else n) 11 (ld_u S.1 p q) c)) (b := (pcnt c)) (by omega) (by omega)) (fun r108 M108 z => ?_)
            obtain ⟨rfl, rfl⟩ := z
            show zV G (eX7_fewest (g_rmv 5)) (0, 0) 111 [(0, .ref 76), (1, .int (nI p)), (2, .int (nI q)), (3, .int (nI v)), (4, .int (nI (ld_in S.1 p))), (5, .int (nI (ld_in S.1 q))), (6, .int (nI (fo (fun n t => if tot S.1 p q t = nI v then min n (pcnt t) else n) 11 (ld_u S.1 p q) c))), (7, .int (nI c)), (8, .int (nI 1))] [.int (nI (min (fo (fun n t => if tot S.1 p q t = nI v then min n (pcnt t) else n) 11 (ld_u S.1 p q) c) (pcnt c)))] (mm I J t) _
            refine zV_goto (tgt := 116) dX7_fewest_111 rfl ?_
            refine zV_istore (lv' := [(0, .ref 76), (1, .int (nI p)), (2, .int (nI q)), (3, .int (nI v)), (4, .int (nI (ld_in S.1 p))), (5, .int (nI (ld_in S.1 q))), (6, .int (nI (min (fo (fun n t => if tot S.1 p q t = nI v then min n (pcnt t) else n) 11 (ld_u S.1 p q) c) (pcnt c)))), (7, .int (nI c)), (8, .int (nI 1))]) dX7_fewest_116 rfl (by decide) rfl ?_
            refine zV_iinc (y := (nI (c + 1))) (lv' := [(0, .ref 76), (1, .int (nI p)), (2, .int (nI q)), (3, .int (nI v)), (4, .int (nI (ld_in S.1 p))), (5, .int (nI (ld_in S.1 q))), (6, .int (nI (min (fo (fun n t => if tot S.1 p q t = nI v then min n (pcnt t) else n) 11 (ld_u S.1 p q) c) (pcnt c)))), (7, .int (nI (c + 1))), (8, .int (nI 1))]) dX7_fewest_118 rfl 7 rfl (nI_1 _) (by decide) rfl ?_
            refine zV_goto (tgt := 43) dX7_fewest_121 rfl ?_
            refine zV_keep (lv' := [(0, .ref 76), (1, .int (nI p)), (2, .int (nI q)), (3, .int (nI v)), (4, .int (nI (ld_in S.1 p))), (5, .int (nI (ld_in S.1 q))), (6, .int (nI (min (fo (fun n t => if tot S.1 p q t = nI v then min n (pcnt t) else n) 11 (ld_u S.1 p q) c) (pcnt c)))), (7, .int (nI (c + 1)))]) [0, 1, 2, 3, 4, 5, 6, 7] rfl ?_
            rw [show fo (fun n t => if tot S.1 p q t = nI v then min n (pcnt t) else n) 11 (ld_u S.1 p q) (c + 1) = (min (fo (fun n t => if tot S.1 p q t = nI v then min n (pcnt t) else n) 11 (ld_u S.1 p q) c) (pcnt c)) from (if_pos hsb).trans (if_pos h86)] at ih
            exact ih
    · refine zV_aload_n dX7_fewest_15 rfl 0 rfl rfl ?_
      refine zV_ldc (v := (-1000001)) dX7_fewest_16 rfl tw970 ?_
      refine zV_callV (E' := eX7_finding (g_rmv 0)) (av := [.int (-1000001)]) (st := []) (b := 76) dX7_fewest_18 rfl (k_RX7_87 _) rfl ⟨by decide, by decide⟩ ⟨by decide, by decide⟩ (Or.inl rfl) rfl (Nat.le_of_ble_eq_true rfl) rfl rfl rfl (m_finding (w := 0) (by decide) (by decide)) (fun r18 M18 z => ?_)
      obtain ⟨rfl, rfl⟩ := z
      show zV G (eX7_fewest (g_rmv 5)) (0, 0) 21 [(0, .ref 76), (1, .int x), (2, .int y), (3, .int z)] [.int (fdg 0)] (mm (mTell I 0) J t) _
      exact zV_ireturn dX7_fewest_21 rfl rfl (PM.tell hM (by decide) (by unfold op_fewest; rw [if_pos h5, if_neg h12]) scM.rf)
