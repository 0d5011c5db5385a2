/-! can of the class; sums, cannot, dearth: both classes -/
theorem b2_z {p : Prop} [Decidable p] : b2 p = 0 ↔ ¬ p := by
  by_cases h : p
  · rw [b2_t h]
    exact ⟨fun z => absurd z (by decide), fun z => absurd h z⟩
  · rw [b2_f h]
    exact ⟨fun _ => h, fun _ => rfl⟩
theorem b2_1 {p : Prop} [Decidable p] (h : p) : nI 1 = b2 p := by rw [b2_t h]; rfl
theorem b2_0 {p : Prop} [Decidable p] (h : ¬ p) : nI 0 = b2 p := by rw [b2_f h]; rfl
theorem with_none {σ : aL} {s v : Nat} (hs : s < 2 ^ σ.1) (h : ld_with σ s v = none) : ¬ rcd σ s v = true := by
  rw [← with_rcd hs, h]
  decide
theorem with_some {σ : aL} {s v t : Nat} (hs : s < 2 ^ σ.1) (h : ld_with σ s v = some t) : rcd σ s v = true := by
  rw [← with_rcd hs, h]
  rfl
theorem ct_1024 {B : Nat} {σ : aL} (h : wfL B σ) {s : Nat} (hs : s < 2 ^ σ.1) : fb_ct (fun v => rcd σ s v) 1024 = fb_ct (fun v => rcd σ s v) 1001 := by
  rw [show (1024 : Nat) = 1001 + 23 from rfl, fb_ct_split]
  have e : fb_ct (fun k => rcd σ s (1001 + k)) 23 = 0 := fb_ct_zero.mpr (fun k hk => by
    cases e : rcd σ s (1001 + k) with
    | false => rfl
    | true => have := rcd_le h hs e; omega)
  rw [e, Nat.add_zero]
theorem sum_xor {σ : aL} {p q t : Nat} (hpq : p ≠ q) (ht : isSub (ld_u σ p q) t = true) : ld_sum σ (t ^^^ ld_in σ q) + ld_sum σ (gv σ q t) = ld_sum σ (gv σ p t) + ld_sum σ (ld_in σ q) := by
  unfold ld_sum
  rw [← fb_sm_add, ← fb_sm_add]
  refine fb_sm_cong (fun c hc => ?_)
  have h1 := ld_in_test (σ := σ) (p := p) hc
  have h2 := ld_in_test (σ := σ) (p := q) hc
  simp only [gv, Nat.testBit_and, Nat.testBit_xor, h1, h2]
  by_cases hb : t.testBit c = true
  · have hu := (ld_u_test (isSub_iff.mp ht c hb)).2
    rw [hb]
    by_cases e : σ.2.1 c 1 = q
    · have e2 : ¬ σ.2.1 c 1 = p := fun z => hpq (z.symm.trans e)
      simp [e]
      exact fun z => absurd z.symm hpq
    · have e2 : σ.2.1 c 1 = p := by rcases hu with h | h; (· exact h); (· exact absurd h e)
      simp [e2, hpq]
  · have hb2 : t.testBit c = false := by cases h : t.testBit c with | true => exact absurd h hb | false => rfl
    rw [hb2]
    by_cases e : σ.2.1 c 1 = q <;> simp [e]
theorem sub_xor {σ : aL} {p q t : Nat} (ht : isSub (ld_u σ p q) t = true) : isSub (ld_u σ p q) (t ^^^ ld_in σ q) = true := by
  rw [isSub_iff] at ht ⊢
  intro i hi
  rw [Nat.testBit_xor] at hi
  by_cases hq : (ld_in σ q).testBit i = true
  · unfold ld_u
    rw [Nat.testBit_or, hq, Bool.or_true]
  · have hq2 : (ld_in σ q).testBit i = false := by cases h : (ld_in σ q).testBit i with | true => exact absurd h hq | false => rfl
    rw [hq2, Bool.xor_false] at hi
    exact ht i hi
def dsn (σ : aL) (p q m v : Nat) : Bool := fo (fun b t => b || decide (ld_sum σ (gv σ p t) = ld_sum σ (gv σ q t) + v)) false (ld_u σ p q) m
theorem dsn_s {σ : aL} {p q m v : Nat} : dsn σ p q (m + 1) v = if isSub (ld_u σ p q) m = true then (dsn σ p q m v || decide (ld_sum σ (gv σ p m) = ld_sum σ (gv σ q m) + v)) else dsn σ p q m v := rfl
theorem dsn_rcd {σ : aL} {p q v : Nat} (hpq : p ≠ q) : dsn σ p q (ld_u σ p q + 1) v = rcd σ (ld_u σ p q) (ld_sum σ (ld_in σ q) + v) := by
  rw [Bool.eq_iff_iff, rcd_iff (ld_u_p σ p q)]
  unfold dsn
  rw [fo_any]
  constructor
  · rintro ⟨t, _, h1, h2⟩
    have h3 := of_decide_eq_true h2
    have h4 := sum_xor hpq h1
    exact ⟨t ^^^ ld_in σ q, sub_xor h1, by omega⟩
  · rintro ⟨t, h1, h2⟩
    have h5 := sub_xor h1
    have h4 := sum_xor hpq h5
    rw [Nat.xor_assoc, Nat.xor_self, Nat.xor_zero] at h4
    exact ⟨t ^^^ ld_in σ q, by have := isSub_le h5; omega, h5, decide_eq_true (by omega)⟩
theorem dth_c {B : Nat} {σ : aL} (h : wfL B σ) {p q T : Nat} (hT : T = ld_sum σ (ld_in σ q)) (hT2 : T ≤ 1000) : (1 + fa_first (fun i => !rcd σ (ld_u σ p q) (T + 1 + i)) (1001 - (T + 1)) ≤ 999 ↔ dth σ p q < 999) ∧ (dth σ p q < 999 → 1 + fa_first (fun i => !rcd σ (ld_u σ p q) (T + 1 + i)) (1001 - (T + 1)) = dth σ p q + 1) := by
  have e1 := fst_cut (p := fun i => !rcd σ (ld_u σ p q) (T + 1 + i)) (n := 1001) (m := 1001 - (T + 1)) (by omega)
  have e2 := fst_cut (p := fun i => !rcd σ (ld_u σ p q) (T + 1 + i)) (n := 1001) (m := 999) (by omega)
  have e3 : fa_first (fun i => !rcd σ (ld_u σ p q) (T + 1 + i)) 1001 ≤ 1001 - (T + 1) := Classical.byContradiction fun z => by
    have h1 := fa_first_no (fun i => !rcd σ (ld_u σ p q) (T + 1 + i)) 1001 (1001 - (T + 1)) (by omega)
    have h2 : rcd σ (ld_u σ p q) (T + 1 + (1001 - (T + 1))) = true := by
      cases e : rcd σ (ld_u σ p q) (T + 1 + (1001 - (T + 1))) with
      | true => rfl
      | false =>
        change (!rcd σ (ld_u σ p q) (T + 1 + (1001 - (T + 1)))) = false at h1
        rw [e] at h1
        exact absurd h1 (by decide)
    have := rcd_le h (ld_u_p σ p q) h2
    omega
  have e4 : dth σ p q = fa_first (fun i => !rcd σ (ld_u σ p q) (T + 1 + i)) 999 := by
    unfold dth fun0
    rw [hT]
  rw [e4, e1, e2]
  omega
set_option maxRecDepth 100000 in
theorem p_can {G : mG} {I : Nat → Nat → Int32} {J : Nat → Nat → Int64} {t : Nat} {B : Nat} {S : aS} (hC : InvC I S) (hw : wfS B S) {x y : Int32} : zC G yX6_can (eX6_can (g_rmv 4)) [.ref 0, .int x, .int y] (mm I J t) (fun r M => PC I (op_can S x y) r M) := by
  refine zC_of (by decide +kernel) rfl (by decide) (Nat.le_of_ble_eq_true rfl) ?_
  have n10 := hw.1.1
  show zV G (eX6_can (g_rmv 4)) (0, 0) 0 [(0, .ref 0), (1, .int x), (2, .int y)] [] (mm I J t) _
  refine zV_iload_n dX6_can_0 rfl 1 rfl rfl ?_
  refine zV_callS (E' := eX6_isPurse (g_rmv 1)) (av := [.int x]) (st := []) dX6_can_1 rfl (k_RX6_124 _) rfl ⟨by decide, by decide⟩ ⟨by decide, by decide⟩ (Or.inl rfl) rfl (Nat.le_of_ble_eq_true rfl) (c_isPurse (x := x)) (fun r1 M1 z => ?_)
  obtain ⟨rfl, rfl⟩ := z
  show zV G (eX6_can (g_rmv 4)) (0, 0) 4 [(0, .ref 0), (1, .int x), (2, .int y)] [.int (b2 (inR x 3))] (mm I J t) _
  refine zB_if_eq (tgt := 17) dX6_can_4 rfl rfl  (fun h4 => ?_) (fun h4 => ?_)
  · refine zV_aload_n dX6_can_17 rfl 0 rfl rfl ?_
    refine zV_ldc (v := (-1000001)) dX6_can_18 rfl tw264 ?_
    refine zV_callV (E' := eX6_tell (g_rmv 1)) (av := [.int (-1000001)]) (st := []) (b := 0) dX6_can_20 rfl (k_RX6_70 _) rfl ⟨by decide, by decide⟩ ⟨by decide, by decide⟩ (Or.inl rfl) rfl (Nat.le_of_ble_eq_true rfl) rfl rfl rfl (c_tell (w := 0) (by decide) (by decide)) (fun r20 M20 z => ?_)
    obtain ⟨rfl, rfl⟩ := z
    show zV G (eX6_can (g_rmv 4)) (0, 0) 23 [(0, .ref 0), (1, .int x), (2, .int y)] [.int (fdg 0)] (mm (up2 I 67 0 (I 67 0 + nI 1)) J t) _
    exact zV_ireturn dX6_can_23 rfl rfl (PC.tell hC hw (by unfold op_can; rw [if_neg h4]) (fun _ _ => rfl))
  · refine zV_iload_n dX6_can_7 rfl 2 rfl rfl ?_
    refine zV_sipush (v := (nI 999)) dX6_can_8 rfl rfl ?_
    refine zV_callS (E' := eX6_isWithin (g_rmv 0)) (av := [.int y, .int (nI 999)]) (st := []) dX6_can_11 rfl (k_RX6_65 _) rfl ⟨by decide, by decide⟩ ⟨by decide, by decide⟩ (Or.inl rfl) rfl (Nat.le_of_ble_eq_true rfl) (c_isWithin (x := y) (y := (nI 999))) (fun r11 M11 z => ?_)
    obtain ⟨rfl, rfl⟩ := z
    show zV G (eX6_can (g_rmv 4)) (0, 0) 14 [(0, .ref 0), (1, .int x), (2, .int y)] [.int (b2 (0 ≤ y ∧ y ≤ (nI 999)))] (mm I J t) _
    refine zB_if_ne (tgt := 24) dX6_can_14 rfl rfl  (fun h14 => ?_) (fun h14 => ?_)
    · obtain ⟨p, hp, rfl⟩ := (inR_iff (by decide)).mp h4
      obtain ⟨v, hv, rfl⟩ := (inR_iff (by decide)).mp h14
      have hi1024 := ld_in_lt n10 p
      refine zV_aload_n dX6_can_24 rfl 0 rfl rfl ?_
      refine zV_getr (q' := 44) 8 dX6_can_25 rfl fl_RX6_50 rfl (by decide) rfl rfl ?_
      refine zV_aload_n dX6_can_28 rfl 0 rfl rfl ?_
      refine zV_getr (q' := 1) 0 dX6_can_29 rfl fl_RX6_12 rfl (by decide) rfl rfl ?_
      refine zV_aload_n dX6_can_32 rfl 0 rfl rfl ?_
      refine zV_getr (q' := 1) 0 dX6_can_33 rfl fl_RX6_12 rfl (by decide) rfl rfl ?_
      refine zV_iload_n dX6_can_36 rfl 1 rfl rfl ?_
      refine zV_callV (E' := eX1_coinsIn (g_rmv 0)) (av := [.int (nI p)]) (st := [.ref 1, .ref 44]) (b := 1) dX6_can_37 rfl (k_RX6_127 _) rfl ⟨by decide, by decide⟩ ⟨by decide, by decide⟩ (Or.inl rfl) rfl (Nat.le_of_ble_eq_true rfl) (sh_land (Or.inl rfl)) rfl rfl (c_coinsIn (p := p) (Or.inl rfl) hC.1 hw.1 (by omega)) (fun r37 M37 z => ?_)
      obtain ⟨rfl, rfl⟩ := z
      show zV G (eX6_can (g_rmv 4)) (0, 0) 40 [(0, .ref 0), (1, .int (nI p)), (2, .int (nI v))] [.int (nI (ld_in S.1 p)), .ref 1, .ref 44] (mm I J t) _
      refine zV_callV (E' := eX2_gather (g_rmv 3)) (av := [.ref 1, .int (nI (ld_in S.1 p))]) (st := []) (b := 44) dX6_can_40 rfl (k_RX6_150 _) rfl ⟨by decide, by decide⟩ ⟨by decide, by decide⟩ (Or.inl rfl) rfl (Nat.le_of_ble_eq_true rfl) rfl rfl rfl (c_gather (s := (ld_in S.1 p)) hC.1 hw.1 (by omega)) (fun r40 M40 z => ?_)
      obtain ⟨J40, rfl, rfl, hP40, hJ40⟩ := z
      show zV G (eX6_can (g_rmv 4)) (0, 0) 43 [(0, .ref 0), (1, .int (nI p)), (2, .int (nI v))] [] (mm (up2 I 44 3 (nI 16)) J40 t) _
      cases eo : ld_with S.1 (ld_in S.1 p) v with
      | none =>
        have hrc := with_none (ld_in_p _ _) eo
        refine zV_aload_n dX6_can_43 rfl 0 rfl rfl ?_
        refine zV_getr (q' := 44) 8 dX6_can_44 rfl fl_RX6_50 rfl (by decide) rfl rfl ?_
        refine zV_iload_n dX6_can_47 rfl 2 rfl rfl ?_
        refine zV_callV (E' := eX2_isReached (g_rmv 1)) (av := [.int (nI v)]) (st := []) (b := 44) dX6_can_48 rfl (k_RX6_154 _) rfl ⟨by decide, by decide⟩ ⟨by decide, by decide⟩ (Or.inl rfl) rfl (Nat.le_of_ble_eq_true rfl) rfl rfl rfl (c_isReached (v := v) (P := (rcd S.1 (ld_in S.1 p))) (by omega) hP40) (fun r48 M48 z => ?_)
        obtain ⟨rfl, rfl⟩ := z
        show zV G (eX6_can (g_rmv 4)) (0, 0) 51 [(0, .ref 0), (1, .int (nI p)), (2, .int (nI v))] [.int (b2 (v ≤ 1000 ∧ (rcd S.1 (ld_in S.1 p)) v = true))] (mm (up2 I 44 3 (nI 16)) J40 t) _
        refine zB_if_eq (tgt := 58) dX6_can_51 rfl rfl  (fun _ => ?_) (fun z => absurd z (fun q => hrc q.2))
        refine zV_iconst (v := (nI 0)) dX6_can_58 rfl rfl ?_
        exact zV_ireturn dX6_can_59 rfl rfl (PC.same hC hw (by unfold op_can; rw [if_pos h4, if_pos h14, tn_nI (show p < 2 ^ 31 by omega), tn_nI (show v < 2 ^ 31 by omega), eo]) (fun i hi => by funext k; exact up2_ni (by unfold scr at hi; omega)))
      | some tt =>
        have hrc := with_some (ld_in_p _ _) eo
        refine zV_aload_n dX6_can_43 rfl 0 rfl rfl ?_
        refine zV_getr (q' := 44) 8 dX6_can_44 rfl fl_RX6_50 rfl (by decide) rfl rfl ?_
        refine zV_iload_n dX6_can_47 rfl 2 rfl rfl ?_
        refine zV_callV (E' := eX2_isReached (g_rmv 1)) (av := [.int (nI v)]) (st := []) (b := 44) dX6_can_48 rfl (k_RX6_154 _) rfl ⟨by decide, by decide⟩ ⟨by decide, by decide⟩ (Or.inl rfl) rfl (Nat.le_of_ble_eq_true rfl) rfl rfl rfl (c_isReached (v := v) (P := (rcd S.1 (ld_in S.1 p))) (by omega) hP40) (fun r48 M48 z => ?_)
        obtain ⟨rfl, rfl⟩ := z
        show zV G (eX6_can (g_rmv 4)) (0, 0) 51 [(0, .ref 0), (1, .int (nI p)), (2, .int (nI v))] [.int (b2 (v ≤ 1000 ∧ (rcd S.1 (ld_in S.1 p)) v = true))] (mm (up2 I 44 3 (nI 16)) J40 t) _
        refine zB_if_eq (tgt := 58) dX6_can_51 rfl rfl  (fun z => absurd z (fun z => z ⟨by omega, hrc⟩)) (fun _ => ?_)
        refine zV_iconst (v := (nI 1)) dX6_can_54 rfl rfl ?_
        refine zV_goto (tgt := 59) dX6_can_55 rfl ?_
        exact zV_ireturn dX6_can_59 rfl rfl (PC.same hC hw (by unfold op_can; rw [if_pos h4, if_pos h14, tn_nI (show p < 2 ^ 31 by omega), tn_nI (show v < 2 ^ 31 by omega), eo]) (fun i hi => by funext k; exact up2_ni (by unfold scr at hi; omega)))
    · refine zV_aload_n dX6_can_17 rfl 0 rfl rfl ?_
      refine zV_ldc (v := (-1000001)) dX6_can_18 rfl tw264 ?_
      refine zV_callV (E' := eX6_tell (g_rmv 1)) (av := [.int (-1000001)]) (st := []) (b := 0) dX6_can_20 rfl (k_RX6_70 _) rfl ⟨by decide, by decide⟩ ⟨by decide, by decide⟩ (Or.inl rfl) rfl (Nat.le_of_ble_eq_true rfl) rfl rfl rfl (c_tell (w := 0) (by decide) (by decide)) (fun r20 M20 z => ?_)
      obtain ⟨rfl, rfl⟩ := z
      show zV G (eX6_can (g_rmv 4)) (0, 0) 23 [(0, .ref 0), (1, .int x), (2, .int y)] [.int (fdg 0)] (mm (up2 I 67 0 (I 67 0 + nI 1)) J t) _
      exact zV_ireturn dX6_can_23 rfl rfl (PC.tell hC hw (by unfold op_can; rw [if_pos h4, if_neg h14]) (fun _ _ => rfl))

set_option maxRecDepth 100000 in
theorem p_sums {G : mG} {I : Nat → Nat → Int32} {J : Nat → Nat → Int64} {t : Nat} {B : Nat} {S : aS} (hC : InvC I S) (hw : wfS B S) {x : Int32} : zC G yX6_sums (eX6_sums (g_rmv 4)) [.ref 0, .int x] (mm I J t) (fun r M => PC I (op_sums S x) r M) := by
  refine zC_of (by decide +kernel) rfl (by decide) (Nat.le_of_ble_eq_true rfl) ?_
  have n10 := hw.1.1
  show zV G (eX6_sums (g_rmv 4)) (0, 0) 0 [(0, .ref 0), (1, .int x)] [] (mm I J t) _
  refine zV_iload_n dX6_sums_0 rfl 1 rfl rfl ?_
  refine zV_callS (E' := eX6_isPurse (g_rmv 1)) (av := [.int x]) (st := []) dX6_sums_1 rfl (k_RX6_124 _) rfl ⟨by decide, by decide⟩ ⟨by decide, by decide⟩ (Or.inl rfl) rfl (Nat.le_of_ble_eq_true rfl) (c_isPurse (x := x)) (fun r1 M1 z => ?_)
  obtain ⟨rfl, rfl⟩ := z
  show zV G (eX6_sums (g_rmv 4)) (0, 0) 4 [(0, .ref 0), (1, .int x)] [.int (b2 (inR x 3))] (mm I J t) _
  refine zB_if_ne (tgt := 14) dX6_sums_4 rfl rfl  (fun h4 => ?_) (fun h4 => ?_)
  · obtain ⟨p, hp, rfl⟩ := (inR_iff (by decide)).mp h4
    have hi1024 := ld_in_lt n10 p
    refine zV_aload_n dX6_sums_14 rfl 0 rfl rfl ?_
    refine zV_getr (q' := 44) 8 dX6_sums_15 rfl fl_RX6_50 rfl (by decide) rfl rfl ?_
    refine zV_aload_n dX6_sums_18 rfl 0 rfl rfl ?_
    refine zV_getr (q' := 1) 0 dX6_sums_19 rfl fl_RX6_12 rfl (by decide) rfl rfl ?_
    refine zV_aload_n dX6_sums_22 rfl 0 rfl rfl ?_
    refine zV_getr (q' := 1) 0 dX6_sums_23 rfl fl_RX6_12 rfl (by decide) rfl rfl ?_
    refine zV_iload_n dX6_sums_26 rfl 1 rfl rfl ?_
    refine zV_callV (E' := eX1_coinsIn (g_rmv 0)) (av := [.int (nI p)]) (st := [.ref 1, .ref 44]) (b := 1) dX6_sums_27 rfl (k_RX6_127 _) rfl ⟨by decide, by decide⟩ ⟨by decide, by decide⟩ (Or.inl rfl) rfl (Nat.le_of_ble_eq_true rfl) (sh_land (Or.inl rfl)) rfl rfl (c_coinsIn (p := p) (Or.inl rfl) hC.1 hw.1 (by omega)) (fun r27 M27 z => ?_)
    obtain ⟨rfl, rfl⟩ := z
    show zV G (eX6_sums (g_rmv 4)) (0, 0) 30 [(0, .ref 0), (1, .int (nI p))] [.int (nI (ld_in S.1 p)), .ref 1, .ref 44] (mm I J t) _
    refine zV_callV (E' := eX2_gather (g_rmv 3)) (av := [.ref 1, .int (nI (ld_in S.1 p))]) (st := []) (b := 44) dX6_sums_30 rfl (k_RX6_150 _) rfl ⟨by decide, by decide⟩ ⟨by decide, by decide⟩ (Or.inl rfl) rfl (Nat.le_of_ble_eq_true rfl) rfl rfl rfl (c_gather (s := (ld_in S.1 p)) hC.1 hw.1 (by omega)) (fun r30 M30 z => ?_)
    obtain ⟨J30, rfl, rfl, hP30, hJ30⟩ := z
    show zV G (eX6_sums (g_rmv 4)) (0, 0) 33 [(0, .ref 0), (1, .int (nI p))] [] (mm (up2 I 44 3 (nI 16)) J30 t) _
    refine zV_aload_n dX6_sums_33 rfl 0 rfl rfl ?_
    refine zV_getr (q' := 44) 8 dX6_sums_34 rfl fl_RX6_50 rfl (by decide) rfl rfl ?_
    refine zV_callV (E' := eX2_reachedCount (g_rmv 1)) (av := []) (st := []) (b := 44) dX6_sums_37 rfl (k_RX6_162 _) rfl ⟨by decide, by decide⟩ ⟨by decide, by decide⟩ (Or.inl rfl) rfl (Nat.le_of_ble_eq_true rfl) rfl rfl rfl (c_reachedCount (P := rcd S.1 (ld_in S.1 p)) hP30) (fun r37 M37 z => ?_)
    obtain ⟨rfl, rfl⟩ := z
    show zV G (eX6_sums (g_rmv 4)) (0, 0) 40 [(0, .ref 0), (1, .int (nI p))] [.int (nI (fb_ct (rcd S.1 (ld_in S.1 p)) 1024))] (mm (up2 I 44 3 (nI 16)) J30 t) _
    exact zV_ireturn dX6_sums_40 rfl rfl (PC.same hC hw (by unfold op_sums; rw [if_pos h4, tn_nI (show p < 2 ^ 31 by omega), ← ct_1024 hw.1 (ld_in_p _ _)]) (fun i hi => by funext k; exact up2_ni (by unfold scr at hi; omega)))
  · refine zV_aload_n dX6_sums_7 rfl 0 rfl rfl ?_
    refine zV_ldc (v := (-1000001)) dX6_sums_8 rfl tw264 ?_
    refine zV_callV (E' := eX6_tell (g_rmv 1)) (av := [.int (-1000001)]) (st := []) (b := 0) dX6_sums_10 rfl (k_RX6_70 _) rfl ⟨by decide, by decide⟩ ⟨by decide, by decide⟩ (Or.inl rfl) rfl (Nat.le_of_ble_eq_true rfl) rfl rfl rfl (c_tell (w := 0) (by decide) (by decide)) (fun r10 M10 z => ?_)
    obtain ⟨rfl, rfl⟩ := z
    show zV G (eX6_sums (g_rmv 4)) (0, 0) 13 [(0, .ref 0), (1, .int x)] [.int (fdg 0)] (mm (up2 I 67 0 (I 67 0 + nI 1)) J t) _
    exact zV_ireturn dX6_sums_13 rfl rfl (PC.tell hC hw (by unfold op_sums; rw [if_neg h4]) (fun _ _ => rfl))

set_option maxRecDepth 100000 in
theorem p_cannot {G : mG} {I : Nat → Nat → Int32} {J : Nat → Nat → Int64} {t : Nat} {B : Nat} {S : aS} (hC : InvC I S) (hw : wfS B S) {x : Int32} : zC G yX6_cannot (eX6_cannot (g_rmv 4)) [.ref 0, .int x] (mm I J t) (fun r M => PC I (op_cannot S x) r M) := by
  refine zC_of (by decide +kernel) rfl (by decide) (Nat.le_of_ble_eq_true rfl) ?_
  have n10 := hw.1.1
  show zV G (eX6_cannot (g_rmv 4)) (0, 0) 0 [(0, .ref 0), (1, .int x)] [] (mm I J t) _
  refine zV_iload_n dX6_cannot_0 rfl 1 rfl rfl ?_
  refine zV_callS (E' := eX6_isPurse (g_rmv 1)) (av := [.int x]) (st := []) dX6_cannot_1 rfl (k_RX6_124 _) rfl ⟨by decide, by decide⟩ ⟨by decide, by decide⟩ (Or.inl rfl) rfl (Nat.le_of_ble_eq_true rfl) (c_isPurse (x := x)) (fun r1 M1 z => ?_)
  obtain ⟨rfl, rfl⟩ := z
  show zV G (eX6_cannot (g_rmv 4)) (0, 0) 4 [(0, .ref 0), (1, .int x)] [.int (b2 (inR x 3))] (mm I J t) _
  refine zB_if_ne (tgt := 14) dX6_cannot_4 rfl rfl  (fun h4 => ?_) (fun h4 => ?_)
  · obtain ⟨p, hp, rfl⟩ := (inR_iff (by decide)).mp h4
    have hi1024 := ld_in_lt n10 p
    refine zV_aload_n dX6_cannot_14 rfl 0 rfl rfl ?_
    refine zV_getr (q' := 44) 8 dX6_cannot_15 rfl fl_RX6_50 rfl (by decide) rfl rfl ?_
    refine zV_aload_n dX6_cannot_18 rfl 0 rfl rfl ?_
    refine zV_getr (q' := 1) 0 dX6_cannot_19 rfl fl_RX6_12 rfl (by decide) rfl rfl ?_
    refine zV_aload_n dX6_cannot_22 rfl 0 rfl rfl ?_
    refine zV_getr (q' := 1) 0 dX6_cannot_23 rfl fl_RX6_12 rfl (by decide) rfl rfl ?_
    refine zV_iload_n dX6_cannot_26 rfl 1 rfl rfl ?_
    refine zV_callV (E' := eX1_coinsIn (g_rmv 0)) (av := [.int (nI p)]) (st := [.ref 1, .ref 44]) (b := 1) dX6_cannot_27 rfl (k_RX6_127 _) rfl ⟨by decide, by decide⟩ ⟨by decide, by decide⟩ (Or.inl rfl) rfl (Nat.le_of_ble_eq_true rfl) (sh_land (Or.inl rfl)) rfl rfl (c_coinsIn (p := p) (Or.inl rfl) hC.1 hw.1 (by omega)) (fun r27 M27 z => ?_)
    obtain ⟨rfl, rfl⟩ := z
    show zV G (eX6_cannot (g_rmv 4)) (0, 0) 30 [(0, .ref 0), (1, .int (nI p))] [.int (nI (ld_in S.1 p)), .ref 1, .ref 44] (mm I J t) _
    refine zV_callV (E' := eX2_gather (g_rmv 3)) (av := [.ref 1, .int (nI (ld_in S.1 p))]) (st := []) (b := 44) dX6_cannot_30 rfl (k_RX6_150 _) rfl ⟨by decide, by decide⟩ ⟨by decide, by decide⟩ (Or.inl rfl) rfl (Nat.le_of_ble_eq_true rfl) rfl rfl rfl (c_gather (s := (ld_in S.1 p)) hC.1 hw.1 (by omega)) (fun r30 M30 z => ?_)
    obtain ⟨J30, rfl, rfl, hP30, hJ30⟩ := z
    show zV G (eX6_cannot (g_rmv 4)) (0, 0) 33 [(0, .ref 0), (1, .int (nI p))] [] (mm (up2 I 44 3 (nI 16)) J30 t) _
    refine zV_aload_n dX6_cannot_33 rfl 0 rfl rfl ?_
    refine zV_getr (q' := 44) 8 dX6_cannot_34 rfl fl_RX6_50 rfl (by decide) rfl rfl ?_
    refine zV_iconst (v := (nI 1)) dX6_cannot_37 rfl rfl ?_
    refine zV_callV (E' := eX2_firstUnreached (g_rmv 2)) (av := [.int (nI 1)]) (st := []) (b := 44) dX6_cannot_38 rfl (k_RX6_165 _) rfl ⟨by decide, by decide⟩ ⟨by decide, by decide⟩ (Or.inl rfl) rfl (Nat.le_of_ble_eq_true rfl) rfl rfl rfl (c_firstUn (a := 1) (P := (rcd S.1 (ld_in S.1 p))) (by omega) hP30) (fun r38 M38 z => ?_)
    obtain ⟨rfl, rfl⟩ := z
    show zV G (eX6_cannot (g_rmv 4)) (0, 0) 41 [(0, .ref 0), (1, .int (nI p))] [.int (nI (1 + fa_first (fun i => !(rcd S.1 (ld_in S.1 p)) (1 + i)) (1001 - 1)))] (mm (up2 I 44 3 (nI 16)) J30 t) _
    exact zV_ireturn dX6_cannot_41 rfl rfl (PC.same hC hw (by unfold op_cannot; rw [if_pos h4, tn_nI (show p < 2 ^ 31 by omega)]; rfl) (fun i hi => by funext k; exact up2_ni (by unfold scr at hi; omega)))
  · refine zV_aload_n dX6_cannot_7 rfl 0 rfl rfl ?_
    refine zV_ldc (v := (-1000001)) dX6_cannot_8 rfl tw264 ?_
    refine zV_callV (E' := eX6_tell (g_rmv 1)) (av := [.int (-1000001)]) (st := []) (b := 0) dX6_cannot_10 rfl (k_RX6_70 _) rfl ⟨by decide, by decide⟩ ⟨by decide, by decide⟩ (Or.inl rfl) rfl (Nat.le_of_ble_eq_true rfl) rfl rfl rfl (c_tell (w := 0) (by decide) (by decide)) (fun r10 M10 z => ?_)
    obtain ⟨rfl, rfl⟩ := z
    show zV G (eX6_cannot (g_rmv 4)) (0, 0) 13 [(0, .ref 0), (1, .int x)] [.int (fdg 0)] (mm (up2 I 67 0 (I 67 0 + nI 1)) J t) _
    exact zV_ireturn dX6_cannot_13 rfl rfl (PC.tell hC hw (by unfold op_cannot; rw [if_neg h4]) (fun _ _ => rfl))

set_option maxRecDepth 100000 in
theorem p_dearth {G : mG} {I : Nat → Nat → Int32} {J : Nat → Nat → Int64} {t : Nat} {B : Nat} {S : aS} (hC : InvC I S) (hw : wfS B S) {x y : Int32} : zC G yX6_dearth (eX6_dearth (g_rmv 4)) [.ref 0, .int x, .int y] (mm I J t) (fun r M => PC I (op_dearth S x y) r M) := by
  refine zC_of (by decide +kernel) rfl (by decide) (Nat.le_of_ble_eq_true rfl) ?_
  have n10 := hw.1.1
  show zV G (eX6_dearth (g_rmv 4)) (0, 0) 0 [(0, .ref 0), (1, .int x), (2, .int y)] [] (mm I J t) _
  refine zV_iload_n dX6_dearth_0 rfl 1 rfl rfl ?_
  refine zV_iload_n dX6_dearth_1 rfl 2 rfl rfl ?_
  refine zV_callS (E' := eX6_areTwoPurses (g_rmv 2)) (av := [.int x, .int y]) (st := []) dX6_dearth_2 rfl (k_RX6_142 _) rfl ⟨by decide, by decide⟩ ⟨by decide, by decide⟩ (Or.inl rfl) rfl (Nat.le_of_ble_eq_true rfl) (c_two (x := x) (y := y)) (fun r2 M2 z => ?_)
  obtain ⟨rfl, rfl⟩ := z
  show zV G (eX6_dearth (g_rmv 4)) (0, 0) 5 [(0, .ref 0), (1, .int x), (2, .int y)] [.int (b2 (twoP x y))] (mm I J t) _
  refine zB_if_ne (tgt := 15) dX6_dearth_5 rfl rfl  (fun h5 => ?_) (fun h5 => ?_)
  · obtain ⟨p, q, hp, hq, hpq, rfl, rfl⟩ := z_two h5
    have hi1024 := ld_in_lt n10 p
    have hi1025 := ld_in_lt n10 q
    have hu1024 := ld_u_lt n10 p q
    have ht1000 := ld_sum_le hw.1 (ld_in S.1 q)
    have hdc := dth_c (p := p) (q := q) (T := (ld_sum S.1 (ld_in S.1 q))) hw.1 rfl ht1000
    have hfl := fa_first_le (fun i => !(rcd S.1 (ld_u S.1 p q)) ((ld_sum S.1 (ld_in S.1 q)) + 1 + i)) (1001 - ((ld_sum S.1 (ld_in S.1 q)) + 1))
    refine zV_aload_n dX6_dearth_15 rfl 0 rfl rfl ?_
    refine zV_getr (q' := 1) 0 dX6_dearth_16 rfl fl_RX6_12 rfl (by decide) rfl rfl ?_
    refine zV_iload_n dX6_dearth_19 rfl 2 rfl rfl ?_
    refine zV_callV (E' := eX1_coinsIn (g_rmv 0)) (av := [.int (nI q)]) (st := []) (b := 1) dX6_dearth_20 rfl (k_RX6_127 _) rfl ⟨by decide, by decide⟩ ⟨by decide, by decide⟩ (Or.inl rfl) rfl (Nat.le_of_ble_eq_true rfl) (sh_land (Or.inl rfl)) rfl rfl (c_coinsIn (p := q) (Or.inl rfl) hC.1 hw.1 (by omega)) (fun r20 M20 z => ?_)
    obtain ⟨rfl, rfl⟩ := z
    show zV G (eX6_dearth (g_rmv 4)) (0, 0) 23 [(0, .ref 0), (1, .int (nI p)), (2, .int (nI q))] [.int (nI (ld_in S.1 q))] (mm I J t) _
    refine zV_istore_n (lv' := [(0, .ref 0), (1, .int (nI p)), (2, .int (nI q)), (3, .int (nI (ld_in S.1 q)))]) dX6_dearth_23 rfl rfl (by decide) rfl ?_
    refine zV_aload_n dX6_dearth_24 rfl 0 rfl rfl ?_
    refine zV_getr (q' := 1) 0 dX6_dearth_25 rfl fl_RX6_12 rfl (by decide) rfl rfl ?_
    refine zV_iload_n dX6_dearth_28 rfl 3 rfl rfl ?_
    refine zV_callV (E' := eX1_worthOf (g_rmv 3)) (av := [.int (nI (ld_in S.1 q))]) (st := []) (b := 1) dX6_dearth_29 rfl (k_RX6_130 _) rfl ⟨by decide, by decide⟩ ⟨by decide, by decide⟩ (Or.inl rfl) rfl (Nat.le_of_ble_eq_true rfl) (sh_land (Or.inl rfl)) rfl rfl (c_worthOf (s := (ld_in S.1 q)) (Or.inl rfl) hC.1 hw.1 (Nat.lt_trans (ld_in_lt n10 _) (by decide))) (fun r29 M29 z => ?_)
    obtain ⟨rfl, rfl⟩ := z
    show zV G (eX6_dearth (g_rmv 4)) (0, 0) 32 [(0, .ref 0), (1, .int (nI p)), (2, .int (nI q)), (3, .int (nI (ld_in S.1 q)))] [.int (nI (ld_sum S.1 (ld_in S.1 q)))] (mm I J t) _
    refine zV_istore (lv' := [(0, .ref 0), (1, .int (nI p)), (2, .int (nI q)), (3, .int (nI (ld_in S.1 q))), (4, .int (nI (ld_sum S.1 (ld_in S.1 q))))]) dX6_dearth_32 rfl (by decide) rfl ?_
    refine zV_aload_n dX6_dearth_34 rfl 0 rfl rfl ?_
    refine zV_getr (q' := 44) 8 dX6_dearth_35 rfl fl_RX6_50 rfl (by decide) rfl rfl ?_
    refine zV_aload_n dX6_dearth_38 rfl 0 rfl rfl ?_
    refine zV_getr (q' := 1) 0 dX6_dearth_39 rfl fl_RX6_12 rfl (by decide) rfl rfl ?_
    refine zV_aload_n dX6_dearth_42 rfl 0 rfl rfl ?_
    refine zV_getr (q' := 1) 0 dX6_dearth_43 rfl fl_RX6_12 rfl (by decide) rfl rfl ?_
    refine zV_iload_n dX6_dearth_46 rfl 1 rfl rfl ?_
    refine zV_callV (E' := eX1_coinsIn (g_rmv 0)) (av := [.int (nI p)]) (st := [.ref 1, .ref 44]) (b := 1) dX6_dearth_47 rfl (k_RX6_127 _) rfl ⟨by decide, by decide⟩ ⟨by decide, by decide⟩ (Or.inl rfl) rfl (Nat.le_of_ble_eq_true rfl) (sh_land (Or.inl rfl)) rfl rfl (c_coinsIn (p := p) (Or.inl rfl) hC.1 hw.1 (by omega)) (fun r47 M47 z => ?_)
    obtain ⟨rfl, rfl⟩ := z
    show zV G (eX6_dearth (g_rmv 4)) (0, 0) 50 [(0, .ref 0), (1, .int (nI p)), (2, .int (nI q)), (3, .int (nI (ld_in S.1 q))), (4, .int (nI (ld_sum S.1 (ld_in S.1 q))))] [.int (nI (ld_in S.1 p)), .ref 1, .ref 44] (mm I J t) _
    refine zV_iload_n dX6_dearth_50 rfl 3 rfl rfl ?_
    refine zA_ior (z := (nI (ld_u S.1 p q))) dX6_dearth_51 rfl  (fa_or _ _) ?_
    refine zV_callV (E' := eX2_gather (g_rmv 3)) (av := [.ref 1, .int (nI (ld_u S.1 p q))]) (st := []) (b := 44) dX6_dearth_52 rfl (k_RX6_150 _) rfl ⟨by decide, by decide⟩ ⟨by decide, by decide⟩ (Or.inl rfl) rfl (Nat.le_of_ble_eq_true rfl) rfl rfl rfl (c_gather (s := (ld_u S.1 p q)) hC.1 hw.1 (by omega)) (fun r52 M52 z => ?_)
    obtain ⟨J52, rfl, rfl, hP52, hJ52⟩ := z
    show zV G (eX6_dearth (g_rmv 4)) (0, 0) 55 [(0, .ref 0), (1, .int (nI p)), (2, .int (nI q)), (3, .int (nI (ld_in S.1 q))), (4, .int (nI (ld_sum S.1 (ld_in S.1 q))))] [] (mm (up2 I 44 3 (nI 16)) J52 t) _
    refine zV_aload_n dX6_dearth_55 rfl 0 rfl rfl ?_
    refine zV_getr (q' := 44) 8 dX6_dearth_56 rfl fl_RX6_50 rfl (by decide) rfl rfl ?_
    refine zV_iload dX6_dearth_59 rfl 4 rfl ?_
    refine zV_iconst (v := (nI 1)) dX6_dearth_61 rfl rfl ?_
    refine zA_iadd (z := (nI ((ld_sum S.1 (ld_in S.1 q)) + 1))) dX6_dearth_62 rfl  (nI_add _ _) ?_
    refine zV_callV (E' := eX2_firstUnreached (g_rmv 2)) (av := [.int (nI ((ld_sum S.1 (ld_in S.1 q)) + 1))]) (st := []) (b := 44) dX6_dearth_63 rfl (k_RX6_165 _) rfl ⟨by decide, by decide⟩ ⟨by decide, by decide⟩ (Or.inl rfl) rfl (Nat.le_of_ble_eq_true rfl) rfl rfl rfl (c_firstUn (a := ((ld_sum S.1 (ld_in S.1 q)) + 1)) (P := (rcd S.1 (ld_u S.1 p q))) (by omega) hP52) (fun r63 M63 z => ?_)
    obtain ⟨rfl, rfl⟩ := z
    show zV G (eX6_dearth (g_rmv 4)) (0, 0) 66 [(0, .ref 0), (1, .int (nI p)), (2, .int (nI q)), (3, .int (nI (ld_in S.1 q))), (4, .int (nI (ld_sum S.1 (ld_in S.1 q))))] [.int (nI (((ld_sum S.1 (ld_in S.1 q)) + 1) + fa_first (fun i => !(rcd S.1 (ld_u S.1 p q)) (((ld_sum S.1 (ld_in S.1 q)) + 1) + i)) (1001 - ((ld_sum S.1 (ld_in S.1 q)) + 1))))] (mm (up2 I 44 3 (nI 16)) J52 t) _
    refine zV_iload dX6_dearth_66 rfl 4 rfl ?_
    refine zA_isub (z := (nI (1 + (fa_first (fun i => !(rcd S.1 (ld_u S.1 p q)) ((ld_sum S.1 (ld_in S.1 q)) + 1 + i)) (1001 - ((ld_sum S.1 (ld_in S.1 q)) + 1)))))) dX6_dearth_68 rfl  ((pk_sub (by omega)).trans (congrArg nI (by omega))) ?_
    refine zV_istore (lv' := [(0, .ref 0), (1, .int (nI p)), (2, .int (nI q)), (3, .int (nI (ld_in S.1 q))), (4, .int (nI (ld_sum S.1 (ld_in S.1 q)))), (5, .int (nI (1 + (fa_first (fun i => !(rcd S.1 (ld_u S.1 p q)) ((ld_sum S.1 (ld_in S.1 q)) + 1 + i)) (1001 - ((ld_sum S.1 (ld_in S.1 q)) + 1))))))]) dX6_dearth_69 rfl (by decide) rfl ?_
    refine zV_iload dX6_dearth_71 rfl 5 rfl ?_
    refine zV_sipush (v := (nI 999)) dX6_dearth_73 rfl rfl ?_
    refine zN_icmp_gt (tgt := 84) dX6_dearth_76 rfl rfl (by omega) (by omega) (fun h76 => ?_) (fun h76 => ?_)
    · refine zV_aload_n dX6_dearth_84 rfl 0 rfl rfl ?_
      refine zV_ldc (v := (-1000004)) dX6_dearth_85 rfl tw424 ?_
      refine zV_callV (E' := eX6_tell (g_rmv 1)) (av := [.int (-1000004)]) (st := []) (b := 0) dX6_dearth_87 rfl (k_RX6_70 _) rfl ⟨by decide, by decide⟩ ⟨by decide, by decide⟩ (Or.inl rfl) rfl (Nat.le_of_ble_eq_true rfl) rfl rfl rfl (c_tell (w := 3) (by decide) (by decide)) (fun r87 M87 z => ?_)
      obtain ⟨rfl, rfl⟩ := z
      show zV G (eX6_dearth (g_rmv 4)) (0, 0) 90 [(0, .ref 0), (1, .int (nI p)), (2, .int (nI q)), (3, .int (nI (ld_in S.1 q))), (4, .int (nI (ld_sum S.1 (ld_in S.1 q)))), (5, .int (nI (1 + (fa_first (fun i => !(rcd S.1 (ld_u S.1 p q)) ((ld_sum S.1 (ld_in S.1 q)) + 1 + i)) (1001 - ((ld_sum S.1 (ld_in S.1 q)) + 1))))))] [.int (fdg 3)] (mm (up2 (up2 I 44 3 (nI 16)) 67 3 ((up2 I 44 3 (nI 16)) 67 3 + nI 1)) J52 t) _
      exact zV_ireturn dX6_dearth_90 rfl rfl (PC.tell (hC.mv hw (fun i hi _ => by funext k; exact up2_ni (by unfold scr at hi; omega))) hw (by unfold op_dearth; rw [if_pos h5, tn_nI (show p < 2 ^ 31 by omega), tn_nI (show q < 2 ^ 31 by omega), if_neg (by omega)]) (fun i hi => by funext k; exact up2_ni (by omega)))
    · refine zV_iload dX6_dearth_79 rfl 5 rfl ?_
      refine zV_goto (tgt := 90) dX6_dearth_81 rfl ?_
      exact zV_ireturn dX6_dearth_90 rfl rfl (PC.same hC hw (by unfold op_dearth; rw [if_pos h5, tn_nI (show p < 2 ^ 31 by omega), tn_nI (show q < 2 ^ 31 by omega), if_pos (by omega), ← hdc.2 (by omega)]) (fun i hi => by funext k; exact up2_ni (by unfold scr at hi; omega)))
  · refine zV_aload_n dX6_dearth_8 rfl 0 rfl rfl ?_
    refine zV_ldc (v := (-1000001)) dX6_dearth_9 rfl tw264 ?_
    refine zV_callV (E' := eX6_tell (g_rmv 1)) (av := [.int (-1000001)]) (st := []) (b := 0) dX6_dearth_11 rfl (k_RX6_70 _) rfl ⟨by decide, by decide⟩ ⟨by decide, by decide⟩ (Or.inl rfl) rfl (Nat.le_of_ble_eq_true rfl) rfl rfl rfl (c_tell (w := 0) (by decide) (by decide)) (fun r11 M11 z => ?_)
    obtain ⟨rfl, rfl⟩ := z
    show zV G (eX6_dearth (g_rmv 4)) (0, 0) 14 [(0, .ref 0), (1, .int x), (2, .int y)] [.int (fdg 0)] (mm (up2 I 67 0 (I 67 0 + nI 1)) J t) _
    exact zV_ireturn dX6_dearth_14 rfl rfl (PC.tell hC hw (by unfold op_dearth; rw [if_neg h5]) (fun _ _ => rfl))

set_option maxRecDepth 100000 in
theorem m_clear {G : mG} {I : Nat → Nat → Int32} {J : Nat → Nat → Int64} {t : Nat}  : zC G yX7_clear (eX7_clear (g_rmv 0)) [.ref 76] (mm I J t) (fun r M => ∃ I', r = none ∧ M = mm I' J t ∧ (∀ v, v < 1001 → I' 81 v = nI 0) ∧ ∀ i, i ≠ 81 → I' i = I i) := by
  refine zC_of (by decide +kernel) rfl (by decide) (Nat.le_of_ble_eq_true rfl) ?_
  show zV G (eX7_clear (g_rmv 0)) (0, 0) 0 [(0, .ref 76)] [] (mm I J t) _
  refine zV_iconst (v := (nI 0)) dX7_clear_0 rfl rfl ?_
  refine zV_istore_n (lv' := [(0, .ref 76), (1, .int (nI 0))]) dX7_clear_1 rfl rfl (by decide) rfl ?_
  refine z_for (fun c => ∀ (I1 : Nat → Nat → Int32), ((∀ v, v < c → I1 81 v = nI 0) ∧ ∀ i, i ≠ 81 → I1 i = I i) → zV G (eX7_clear (g_rmv 0)) (0, 0) 2 [(0, .ref 76), (1, .int (nI c))] [] (mm I1 J t) _) 1001 ?_ ?_ 0 (Nat.zero_le _) I ⟨fun v h => absurd h (Nat.not_lt_zero _), fun _ _ => rfl⟩
  · intro I1 h1
    refine zV_iload_n dX7_clear_2 rfl 1 rfl rfl ?_
    refine zV_aload_n dX7_clear_3 rfl 0 rfl rfl ?_
    refine zV_getr (q' := 81) 5 dX7_clear_4 rfl fl_RX7_22 rfl (by decide) rfl rfl ?_
    refine zV_alen (v := nI 1001) dX7_clear_7 rfl rfl (by decide) rfl ?_
    refine zN_icmp_ge (tgt := 24) dX7_clear_8 rfl rfl (by omega) (by omega) (fun _ => ?_) (fun z => absurd z (by omega))
    exact zV_return dX7_clear_24 rfl (⟨_, rfl, rfl, h1.1, h1.2⟩)
  · intro c hc ih
    intro I1 h1
    refine zV_iload_n dX7_clear_2 rfl 1 rfl rfl ?_
    refine zV_aload_n dX7_clear_3 rfl 0 rfl rfl ?_
    refine zV_getr (q' := 81) 5 dX7_clear_4 rfl fl_RX7_22 rfl (by decide) rfl rfl ?_
    refine zV_alen (v := nI 1001) dX7_clear_7 rfl rfl (by decide) rfl ?_
    refine zN_icmp_ge (tgt := 24) dX7_clear_8 rfl rfl (by omega) (by omega) (fun z => absurd z (by omega)) (fun _ => ?_)
    refine zV_aload_n dX7_clear_11 rfl 0 rfl rfl ?_
    refine zV_getr (q' := 81) 5 dX7_clear_12 rfl fl_RX7_22 rfl (by decide) rfl rfl ?_
    refine zV_iload_n dX7_clear_15 rfl 1 rfl rfl ?_
    refine zV_iconst (v := (nI 0)) dX7_clear_16 rfl rfl ?_
    refine zV_zastore c dX7_clear_17 rfl rfl rfl (by omega) (by decide) rfl ?_
    refine zV_iinc (y := (nI (c + 1))) (lv' := [(0, .ref 76), (1, .int (nI (c + 1)))]) dX7_clear_18 rfl 1 rfl (nI_1 _) (by decide) rfl ?_
    refine zV_goto (tgt := 2) dX7_clear_21 rfl ?_
    exact ih _ ⟨fun v hv => by
        by_cases e : v = c
        · rw [e, up2_same]
        · rw [up2_nk e]; exact h1.1 v (by omega), fun i hi => by rw [← h1.2 i hi]; funext k; exact up2_ni hi⟩

set_option maxRecDepth 100000 in
theorem m_findSums {G : mG} {I : Nat → Nat → Int32} {J : Nat → Nat → Int64} {t : Nat} {B : Nat} {σ : aL} (hR : absR I 77 σ) (hW : wfL B σ) {p : Nat} (hp : p < 4) : zC G yX7_findSums (eX7_findSums (g_rmv 5)) [.ref 76, .int (nI p)] (mm I J t) (fun r M => ∃ I', r = none ∧ M = mm I' J t ∧ (∀ v, v < 1001 → I' 81 v = b2 (rcd σ (ld_in σ p) v = true)) ∧ ∀ i, i ≠ 81 → I' i = I i) := by
  refine zC_of (by decide +kernel) rfl (by decide) (Nat.le_of_ble_eq_true rfl) ?_
  have n10 := hW.1
  have hi1024 := ld_in_lt n10 p
  show zV G (eX7_findSums (g_rmv 5)) (0, 0) 0 [(0, .ref 76), (1, .int (nI p))] [] (mm I J t) _
  refine zV_aload_n dX7_findSums_0 rfl 0 rfl rfl ?_
  refine zV_callV (E' := eX7_clear (g_rmv 0)) (av := []) (st := []) (b := 76) dX7_findSums_1 rfl (k_RX7_173 _) rfl ⟨by decide, by decide⟩ ⟨by decide, by decide⟩ (Or.inl rfl) rfl (Nat.le_of_ble_eq_true rfl) rfl rfl rfl m_clear (fun r1 M1 z => ?_)
  obtain ⟨I1, rfl, rfl, hX1, hF1⟩ := z
  show zV G (eX7_findSums (g_rmv 5)) (0, 0) 4 [(0, .ref 76), (1, .int (nI p))] [] (mm I1 J t) _
  refine zV_aload_n dX7_findSums_4 rfl 0 rfl rfl ?_
  refine zV_iload_n dX7_findSums_5 rfl 1 rfl rfl ?_
  refine zV_callV (E' := eX7_setOf (g_rmv 2)) (av := [.int (nI p)]) (st := []) (b := 76) dX7_findSums_6 rfl (k_RX7_139 _) rfl ⟨by decide, by decide⟩ ⟨by decide, by decide⟩ (Or.inl rfl) rfl (Nat.le_of_ble_eq_true rfl) rfl rfl rfl (m_setOf (p := p) (hR.mv (hF1 77 (by decide))) hW (by omega)) (fun r6 M6 z => ?_)
  obtain ⟨rfl, rfl⟩ := z
  show zV G (eX7_findSums (g_rmv 5)) (0, 0) 9 [(0, .ref 76), (1, .int (nI p))] [.int (nI (ld_in σ p))] (mm I1 J t) _
  refine zV_istore_n (lv' := [(0, .ref 76), (1, .int (nI p)), (2, .int (nI (ld_in σ p)))]) dX7_findSums_9 rfl rfl (by decide) rfl ?_
  refine zV_iconst (v := (nI 0)) dX7_findSums_10 rfl rfl ?_
  refine zV_istore_n (lv' := [(0, .ref 76), (1, .int (nI p)), (2, .int (nI (ld_in σ p))), (3, .int (nI 0))]) dX7_findSums_11 rfl rfl (by decide) rfl ?_
  refine z_for (fun c => ∀ (I1 : Nat → Nat → Int32), ((∀ v, v < 1001 → I1 81 v = b2 (seen σ (ld_in σ p) c v = true)) ∧ ∀ i, i ≠ 81 → I1 i = I i) → zV G (eX7_findSums (g_rmv 5)) (0, 0) 12 [(0, .ref 76), (1, .int (nI p)), (2, .int (nI (ld_in σ p))), (3, .int (nI c))] [] (mm I1 J t) _) ((ld_in σ p) + 1) ?_ ?_ 0 (Nat.zero_le _) I1 ⟨fun v hv => by rw [hX1 v hv]; exact b2_0 (fun z => by cases z), hF1⟩
  · intro I1 h1
    refine zV_iload_n dX7_findSums_12 rfl 3 rfl rfl ?_
    refine zV_iload_n dX7_findSums_13 rfl 2 rfl rfl ?_
    refine zN_icmp_gt (tgt := 42) dX7_findSums_14 rfl rfl (by omega) (by omega) (fun _ => ?_) (fun z => absurd z (by omega))
    exact zV_return dX7_findSums_42 rfl (⟨_, rfl, rfl, fun v hv => by rw [← seen_rcd (ld_in_p _ _)]; exact h1.1 v hv, h1.2⟩)
  · intro c hc ih
    intro I1 h1
    have hbi := ld_sum_le hW c
    refine zV_iload_n dX7_findSums_12 rfl 3 rfl rfl ?_
    refine zV_iload_n dX7_findSums_13 rfl 2 rfl rfl ?_
    refine zN_icmp_gt (tgt := 42) dX7_findSums_14 rfl rfl (by omega) (by omega) (fun z => absurd z (by omega)) (fun _ => ?_)
    refine zV_iload_n dX7_findSums_17 rfl 3 rfl rfl ?_
    refine zV_iload_n dX7_findSums_18 rfl 2 rfl rfl ?_
    refine zV_iconst (v := (-1)) dX7_findSums_19 rfl rfl ?_
    refine zA_ixor (z := ((nI (ld_in σ p)) ^^^ (-1))) dX7_findSums_20 rfl  (rfl) ?_
    refine zA_iand (z := (nI c &&& (nI (ld_in σ p) ^^^ (-1)))) dX7_findSums_21 rfl  (rfl) ?_
    refine zV_if_ne (tgt := 36) dX7_findSums_22 rfl rfl  (fun h22 => ?_) (fun h22 => ?_)
    · have hnb : ¬ isSub (ld_in σ p) c = true := fun z => h22 ((z_sub (by omega) (by omega)).mpr z)
      refine zV_iinc (y := (nI (c + 1))) (lv' := [(0, .ref 76), (1, .int (nI p)), (2, .int (nI (ld_in σ p))), (3, .int (nI (c + 1)))]) dX7_findSums_36 rfl 3 rfl (nI_1 _) (by decide) rfl ?_
      refine zV_goto (tgt := 12) dX7_findSums_39 rfl ?_
      exact ih I1 ⟨fun v hv => by rw [seen_s, if_neg hnb]; exact h1.1 v hv, h1.2⟩
    · have hsb := (z_sub (by omega) (by omega)).mp h22
      refine zV_aload_n dX7_findSums_25 rfl 0 rfl rfl ?_
      refine zV_getr (q' := 81) 5 dX7_findSums_26 rfl fl_RX7_22 rfl (by decide) rfl rfl ?_
      refine zV_aload_n dX7_findSums_29 rfl 0 rfl rfl ?_
      refine zV_iload_n dX7_findSums_30 rfl 3 rfl rfl ?_
      refine zV_callV (E' := eX7_sumOf (g_rmv 4)) (av := [.int (nI c)]) (st := [.ref 81]) (b := 76) dX7_findSums_31 rfl (k_RX7_142 _) rfl ⟨by decide, by decide⟩ ⟨by decide, by decide⟩ (Or.inl rfl) rfl (Nat.le_of_ble_eq_true rfl) rfl rfl rfl (m_sumOf (s := c) (hR.mv (h1.2 77 (by decide))) hW (by omega)) (fun r31 M31 z => ?_)
      obtain ⟨rfl, rfl⟩ := z
      show zV G (eX7_findSums (g_rmv 5)) (0, 0) 34 [(0, .ref 76), (1, .int (nI p)), (2, .int (nI (ld_in σ p))), (3, .int (nI c))] [.int (nI (ld_sum σ c)), .ref 81] (mm I1 J t) _
      refine zV_iconst (v := (nI 1)) dX7_findSums_34 rfl rfl ?_
      refine zV_zastore (ld_sum σ c) dX7_findSums_35 rfl rfl rfl (by omega) (by decide) rfl ?_
      refine zV_iinc (y := (nI (c + 1))) (lv' := [(0, .ref 76), (1, .int (nI p)), (2, .int (nI (ld_in σ p))), (3, .int (nI (c + 1)))]) dX7_findSums_36 rfl 3 rfl (nI_1 _) (by decide) rfl ?_
      refine zV_goto (tgt := 12) dX7_findSums_39 rfl ?_
      exact ih _ ⟨fun v hv => by
          rw [seen_s, if_pos hsb]
          by_cases e : v = ld_sum σ c
          · rw [e, up2_same]; exact b2_1 (by rw [decide_eq_true (rfl : ld_sum σ c = ld_sum σ c), Bool.or_true])
          · rw [up2_nk e, decide_eq_false (fun z => e z.symm), Bool.or_false]; exact h1.1 v hv, fun i hi => by rw [← h1.2 i hi]; funext k; exact up2_ni hi⟩

theorem sc81 {I I' : Nat → Nat → Int32} (h : ∀ i, i ≠ 81 → I' i = I i) : scM I I' := ⟨fun i _ _ a _ _ _ => h i a, by rw [h 76 (by decide)], by rw [h 76 (by decide)]⟩
set_option maxRecDepth 100000 in
theorem q_sums {G : mG} {I : Nat → Nat → Int32} {J : Nat → Nat → Int64} {t : Nat} {B : Nat} {S : aS} (hM : InvM I S) (hw : wfS B S) {x : Int32} : zC G yX7_sums (eX7_sums (g_rmv 6)) [.ref 76, .int x] (mm I J t) (fun r M => PM I (op_sums S x) r M) := by
  refine zC_of (by decide +kernel) rfl (by decide) (Nat.le_of_ble_eq_true rfl) ?_
  have n10 := hw.1.1
  show zV G (eX7_sums (g_rmv 6)) (0, 0) 0 [(0, .ref 76), (1, .int x)] [] (mm I J t) _
  refine zV_iload_n dX7_sums_0 rfl 1 rfl rfl ?_
  refine zV_callS (E' := eX7_isPurse (g_rmv 1)) (av := [.int x]) (st := []) dX7_sums_1 rfl (k_RX7_76 _) rfl ⟨by decide, by decide⟩ ⟨by decide, by decide⟩ (Or.inl rfl) rfl (Nat.le_of_ble_eq_true rfl) (m_isPurse (x := x)) (fun r1 M1 z => ?_)
  obtain ⟨rfl, rfl⟩ := z
  show zV G (eX7_sums (g_rmv 6)) (0, 0) 4 [(0, .ref 76), (1, .int x)] [.int (b2 (inR x 3))] (mm I J t) _
  refine zB_if_ne (tgt := 14) dX7_sums_4 rfl rfl  (fun h4 => ?_) (fun h4 => ?_)
  · obtain ⟨p, hp, rfl⟩ := (inR_iff (by decide)).mp h4
    have hi1024 := ld_in_lt n10 p
    refine zV_aload_n dX7_sums_14 rfl 0 rfl rfl ?_
    refine zV_iload_n dX7_sums_15 rfl 1 rfl rfl ?_
    refine zV_callV (E' := eX7_findSums (g_rmv 5)) (av := [.int (nI p)]) (st := []) (b := 76) dX7_sums_16 rfl (k_RX7_176 _) rfl ⟨by decide, by decide⟩ ⟨by decide, by decide⟩ (Or.inl rfl) rfl (Nat.le_of_ble_eq_true rfl) rfl rfl rfl (m_findSums (p := p) hM.1 hw.1 (by omega)) (fun r16 M16 z => ?_)
    obtain ⟨I16, rfl, rfl, hX16, hF16⟩ := z
    show zV G (eX7_sums (g_rmv 6)) (0, 0) 19 [(0, .ref 76), (1, .int (nI p))] [] (mm I16 J t) _
    refine zV_iconst (v := (nI 0)) dX7_sums_19 rfl rfl ?_
    refine zV_istore_n (lv' := [(0, .ref 76), (1, .int (nI p)), (2, .int (nI 0))]) dX7_sums_20 rfl rfl (by decide) rfl ?_
    refine zV_iconst (v := (nI 0)) dX7_sums_21 rfl rfl ?_
    refine zV_istore_n (lv' := [(0, .ref 76), (1, .int (nI p)), (2, .int (nI 0)), (3, .int (nI 0))]) dX7_sums_22 rfl rfl (by decide) rfl ?_
    refine z_for (fun c => zV G (eX7_sums (g_rmv 6)) (0, 0) 23 [(0, .ref 76), (1, .int (nI p)), (2, .int (nI (fb_ct (fun v => rcd S.1 (ld_in S.1 p) v) c))), (3, .int (nI c))] [] (mm I16 J t) _) 1001 ?_ ?_ 0 (Nat.zero_le _)
    · skip
      refine zV_iload_n dX7_sums_23 rfl 3 rfl rfl ?_
      refine zV_aload_n dX7_sums_24 rfl 0 rfl rfl ?_
      refine zV_getr (q' := 81) 5 dX7_sums_25 rfl fl_RX7_22 rfl (by decide) rfl rfl ?_
      refine zV_alen (v := nI 1001) dX7_sums_28 rfl rfl (by decide) rfl ?_
      refine zN_icmp_ge (tgt := 55) dX7_sums_29 rfl rfl (by omega) (by omega) (fun _ => ?_) (fun z => absurd z (by omega))
      refine zV_iload_n dX7_sums_55 rfl 2 rfl rfl ?_
      exact zV_ireturn dX7_sums_56 rfl rfl (PM.same hM (by unfold op_sums; rw [if_pos h4, tn_nI (show p < 2 ^ 31 by omega)]) (sc81 hF16))
    · intro c hc ih
      have cl := fb_ct_le (fun v => rcd S.1 (ld_in S.1 p) v) c
      refine zV_iload_n dX7_sums_23 rfl 3 rfl rfl ?_
      refine zV_aload_n dX7_sums_24 rfl 0 rfl rfl ?_
      refine zV_getr (q' := 81) 5 dX7_sums_25 rfl fl_RX7_22 rfl (by decide) rfl rfl ?_
      refine zV_alen (v := nI 1001) dX7_sums_28 rfl rfl (by decide) rfl ?_
      refine zN_icmp_ge (tgt := 55) dX7_sums_29 rfl rfl (by omega) (by omega) (fun z => absurd z (by omega)) (fun _ => ?_)
      refine zV_iload_n dX7_sums_32 rfl 2 rfl rfl ?_
      refine zV_aload_n dX7_sums_33 rfl 0 rfl rfl ?_
      refine zV_getr (q' := 81) 5 dX7_sums_34 rfl fl_RX7_22 rfl (by decide) rfl rfl ?_
      refine zV_iload_n dX7_sums_37 rfl 3 rfl rfl ?_
      refine zV_zaload c dX7_sums_38 rfl rfl rfl (by omega) (by decide) ?_
      refine zV_if_eq (tgt := 46) dX7_sums_39 rfl rfl  (fun h39 => ?_) (fun h39 => ?_)
      · have hno : ¬ rcd S.1 (ld_in S.1 p) c = true := by rw [hX16 c (by omega)] at h39; exact b2_z.mp h39
        refine zV_iconst (v := (nI 0)) dX7_sums_46 rfl rfl ?_
        refine zA_iadd (z := (nI ((fb_ct (fun v => rcd S.1 (ld_in S.1 p) v) c) + 0))) dX7_sums_47 rfl  (nI_add _ _) ?_
        refine zV_istore_n (lv' := [(0, .ref 76), (1, .int (nI p)), (2, .int (nI ((fb_ct (fun v => rcd S.1 (ld_in S.1 p) v) c) + 0))), (3, .int (nI c))]) dX7_sums_48 rfl rfl (by decide) rfl ?_
        refine zV_iinc (y := (nI (c + 1))) (lv' := [(0, .ref 76), (1, .int (nI p)), (2, .int (nI ((fb_ct (fun v => rcd S.1 (ld_in S.1 p) v) c) + 0))), (3, .int (nI (c + 1)))]) dX7_sums_49 rfl 3 rfl (nI_1 _) (by decide) rfl ?_
        refine zV_goto (tgt := 23) dX7_sums_52 rfl ?_
        rw [fb_ct_succ, if_neg hno] at ih
        exact ih
      · have hye : rcd S.1 (ld_in S.1 p) c = true := Classical.byContradiction fun z => h39 (by rw [hX16 c (by omega)]; exact b2_z.mpr z)
        refine zV_iconst (v := (nI 1)) dX7_sums_42 rfl rfl ?_
        refine zV_goto (tgt := 47) dX7_sums_43 rfl ?_
        refine zA_iadd (z := (nI ((fb_ct (fun v => rcd S.1 (ld_in S.1 p) v) c) + 1))) dX7_sums_47 rfl  (nI_add _ _) ?_
        refine zV_istore_n (lv' := [(0, .ref 76), (1, .int (nI p)), (2, .int (nI ((fb_ct (fun v => rcd S.1 (ld_in S.1 p) v) c) + 1))), (3, .int (nI c))]) dX7_sums_48 rfl rfl (by decide) rfl ?_
        refine zV_iinc (y := (nI (c + 1))) (lv' := [(0, .ref 76), (1, .int (nI p)), (2, .int (nI ((fb_ct (fun v => rcd S.1 (ld_in S.1 p) v) c) + 1))), (3, .int (nI (c + 1)))]) dX7_sums_49 rfl 3 rfl (nI_1 _) (by decide) rfl ?_
        refine zV_goto (tgt := 23) dX7_sums_52 rfl ?_
        rw [fb_ct_succ, if_pos hye] at ih
        exact ih
  · refine zV_aload_n dX7_sums_7 rfl 0 rfl rfl ?_
    refine zV_ldc (v := (-1000001)) dX7_sums_8 rfl tw970 ?_
    refine zV_callV (E' := eX7_finding (g_rmv 0)) (av := [.int (-1000001)]) (st := []) (b := 76) dX7_sums_10 rfl (k_RX7_87 _) rfl ⟨by decide, by decide⟩ ⟨by decide, by decide⟩ (Or.inl rfl) rfl (Nat.le_of_ble_eq_true rfl) rfl rfl rfl (m_finding (w := 0) (by decide) (by decide)) (fun r10 M10 z => ?_)
    obtain ⟨rfl, rfl⟩ := z
    show zV G (eX7_sums (g_rmv 6)) (0, 0) 13 [(0, .ref 76), (1, .int x)] [.int (fdg 0)] (mm (mTell I 0) J t) _
    exact zV_ireturn dX7_sums_13 rfl rfl (PM.tell hM (by decide) (by unfold op_sums; rw [if_neg h4]) scM.rf)

set_option maxRecDepth 100000 in
theorem q_cannot {G : mG} {I : Nat → Nat → Int32} {J : Nat → Nat → Int64} {t : Nat} {B : Nat} {S : aS} (hM : InvM I S) (hw : wfS B S) {x : Int32} : zC G yX7_cannot (eX7_cannot (g_rmv 6)) [.ref 76, .int x] (mm I J t) (fun r M => PM I (op_cannot S x) r M) := by
  refine zC_of (by decide +kernel) rfl (by decide) (Nat.le_of_ble_eq_true rfl) ?_
  have n10 := hw.1.1
  show zV G (eX7_cannot (g_rmv 6)) (0, 0) 0 [(0, .ref 76), (1, .int x)] [] (mm I J t) _
  refine zV_iload_n dX7_cannot_0 rfl 1 rfl rfl ?_
  refine zV_callS (E' := eX7_isPurse (g_rmv 1)) (av := [.int x]) (st := []) dX7_cannot_1 rfl (k_RX7_76 _) rfl ⟨by decide, by decide⟩ ⟨by decide, by decide⟩ (Or.inl rfl) rfl (Nat.le_of_ble_eq_true rfl) (m_isPurse (x := x)) (fun r1 M1 z => ?_)
  obtain ⟨rfl, rfl⟩ := z
  show zV G (eX7_cannot (g_rmv 6)) (0, 0) 4 [(0, .ref 76), (1, .int x)] [.int (b2 (inR x 3))] (mm I J t) _
  refine zB_if_ne (tgt := 14) dX7_cannot_4 rfl rfl  (fun h4 => ?_) (fun h4 => ?_)
  · obtain ⟨p, hp, rfl⟩ := (inR_iff (by decide)).mp h4
    have hi1024 := ld_in_lt n10 p
    refine zV_aload_n dX7_cannot_14 rfl 0 rfl rfl ?_
    refine zV_iload_n dX7_cannot_15 rfl 1 rfl rfl ?_
    refine zV_callV (E' := eX7_findSums (g_rmv 5)) (av := [.int (nI p)]) (st := []) (b := 76) dX7_cannot_16 rfl (k_RX7_176 _) rfl ⟨by decide, by decide⟩ ⟨by decide, by decide⟩ (Or.inl rfl) rfl (Nat.le_of_ble_eq_true rfl) rfl rfl rfl (m_findSums (p := p) hM.1 hw.1 (by omega)) (fun r16 M16 z => ?_)
    obtain ⟨I16, rfl, rfl, hX16, hF16⟩ := z
    show zV G (eX7_cannot (g_rmv 6)) (0, 0) 19 [(0, .ref 76), (1, .int (nI p))] [] (mm I16 J t) _
    refine zV_iconst (v := (nI 1)) dX7_cannot_19 rfl rfl ?_
    refine zV_istore_n (lv' := [(0, .ref 76), (1, .int (nI p)), (2, .int (nI 1))]) dX7_cannot_20 rfl rfl (by decide) rfl ?_
    refine z_for (fun i => (∀ j, j < i → rcd S.1 (ld_in S.1 p) (1 + j) = true) → zV G (eX7_cannot (g_rmv 6)) (0, 0) 21 [(0, .ref 76), (1, .int (nI p)), (2, .int (nI (1 + i)))] [] (mm I16 J t) _) 1000 ?_ ?_ 0 (Nat.zero_le _) (fun j h => absurd h (Nat.not_lt_zero _))
    · intro hno
      refine zV_iload_n dX7_cannot_21 rfl 2 rfl rfl ?_
      refine zV_aload_n dX7_cannot_22 rfl 0 rfl rfl ?_
      refine zV_getr (q' := 81) 5 dX7_cannot_23 rfl fl_RX7_22 rfl (by decide) rfl rfl ?_
      refine zV_alen (v := nI 1001) dX7_cannot_26 rfl rfl (by decide) rfl ?_
      refine zN_icmp_ge (tgt := 45) dX7_cannot_27 rfl rfl (by omega) (by omega) (fun _ => ?_) (fun z => absurd z (by omega))
      refine zV_iload_n dX7_cannot_45 rfl 2 rfl rfl ?_
      exact zV_ireturn dX7_cannot_46 rfl rfl (PM.same hM (by unfold op_cannot fun0; rw [if_pos h4, tn_nI (show p < 2 ^ 31 by omega), fst_end (fun j hj => by rw [hno j hj]; rfl)]) (sc81 hF16))
    · intro i hi ih hno
      refine zV_iload_n dX7_cannot_21 rfl 2 rfl rfl ?_
      refine zV_aload_n dX7_cannot_22 rfl 0 rfl rfl ?_
      refine zV_getr (q' := 81) 5 dX7_cannot_23 rfl fl_RX7_22 rfl (by decide) rfl rfl ?_
      refine zV_alen (v := nI 1001) dX7_cannot_26 rfl rfl (by decide) rfl ?_
      refine zN_icmp_ge (tgt := 45) dX7_cannot_27 rfl rfl (by omega) (by omega) (fun z => absurd z (by omega)) (fun _ => ?_)
      refine zV_aload_n dX7_cannot_30 rfl 0 rfl rfl ?_
      refine zV_getr (q' := 81) 5 dX7_cannot_31 rfl fl_RX7_22 rfl (by decide) rfl rfl ?_
      refine zV_iload_n dX7_cannot_34 rfl 2 rfl rfl ?_
      refine zV_zaload (1 + i) dX7_cannot_35 rfl rfl rfl (by omega) (by decide) ?_
      refine zV_if_eq (tgt := 45) dX7_cannot_36 rfl rfl  (fun h36 => ?_) (fun h36 => ?_)
      · have hn0 : ¬ rcd S.1 (ld_in S.1 p) (1 + i) = true := by rw [hX16 (1 + i) (by omega)] at h36; exact b2_z.mp h36
        refine zV_iload_n dX7_cannot_45 rfl 2 rfl rfl ?_
        exact zV_ireturn dX7_cannot_46 rfl rfl (PM.same hM (by unfold op_cannot fun0; rw [if_pos h4, tn_nI (show p < 2 ^ 31 by omega), fst_is hi (fun j hj => by rw [hno j hj]; rfl) (by cases e : rcd S.1 (ld_in S.1 p) (1 + i) with | false => rfl | true => exact absurd e hn0)]) (sc81 hF16))
      · have hye : rcd S.1 (ld_in S.1 p) (1 + i) = true := Classical.byContradiction fun z => h36 (by rw [hX16 (1 + i) (by omega)]; exact b2_z.mpr z)
        refine zV_iinc (y := (nI (1 + (i + 1)))) (lv' := [(0, .ref 76), (1, .int (nI p)), (2, .int (nI (1 + (i + 1))))]) dX7_cannot_39 rfl 2 rfl (nI_1 _) (by decide) rfl ?_
        refine zV_goto (tgt := 21) dX7_cannot_42 rfl ?_
        exact ih (fun j hj => by (by_cases e : j = i); (· subst e; exact hye); (· exact hno j (by omega)))
  · refine zV_aload_n dX7_cannot_7 rfl 0 rfl rfl ?_
    refine zV_ldc (v := (-1000001)) dX7_cannot_8 rfl tw970 ?_
    refine zV_callV (E' := eX7_finding (g_rmv 0)) (av := [.int (-1000001)]) (st := []) (b := 76) dX7_cannot_10 rfl (k_RX7_87 _) rfl ⟨by decide, by decide⟩ ⟨by decide, by decide⟩ (Or.inl rfl) rfl (Nat.le_of_ble_eq_true rfl) rfl rfl rfl (m_finding (w := 0) (by decide) (by decide)) (fun r10 M10 z => ?_)
    obtain ⟨rfl, rfl⟩ := z
    show zV G (eX7_cannot (g_rmv 6)) (0, 0) 13 [(0, .ref 76), (1, .int x)] [.int (fdg 0)] (mm (mTell I 0) J t) _
    exact zV_ireturn dX7_cannot_13 rfl rfl (PM.tell hM (by decide) (by unfold op_cannot; rw [if_neg h4]) scM.rf)
