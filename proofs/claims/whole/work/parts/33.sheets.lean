/-! sheets: both classes -/
theorem z_hasN {n : Nat} {x : Int32} (hn : n < 2 ^ 30) : (0 ≤ x ∧ x ≤ nI n - nI 1) ↔ hasC n x := by
  have e : (nI n - nI 1).toInt = (n : Int) - 1 := pk_sub_toInt (by omega) (by decide)
  have e0 : (0 : Int32).toInt = 0 := rfl
  show (0 ≤ x ∧ x ≤ nI n - nI 1) ↔ (0 ≤ x ∧ x < nI n)
  rw [Int32.le_iff_toInt_le, Int32.le_iff_toInt_le, Int32.lt_iff_toInt_lt, e, nI_toInt (by omega), e0]
  omega
theorem z_has2 {n : Nat} {x : Int32} (hn : n < 2 ^ 31) (h : hasC n x) : ∃ c, c < n ∧ x = nI c := by
  obtain ⟨j, hj, rfl⟩ := nI_of (fun z => absurd h.1 (Int32.not_le.mpr z))
  exact ⟨j, (nI_ltI hj (by omega)).mp h.2, rfl⟩
theorem upN_self {α : Type} (f : Nat → α) (s : Nat) : upN f s (f s) = f := by
  funext i
  unfold upN
  by_cases e : i = s
  · rw [if_pos e, e]
  · rw [if_neg e]
def op_load_go (ns : Nat → Int32) (m : Nat) : Nat := fa_first (fun j => decide (¬ inR (ns j) 1)) m
def ld_lies (σ : aL) (ns : Nat → Int32) (m : Nat) : aL := (σ.1, (fun c => if c < m then k_set (σ.2.1 c) 4 (tn (ns c)) else σ.2.1 c), σ.2.2)
def op_load (S : aS) (x : Int32) : Int32 × aS := if inR x 3 then (if S.2.2.2.2.2.1 (tn x) = 0 then fnd S 5 else (nI (op_load_go (S.2.2.2.2.2.2.2 (tn x)) (min (S.2.2.2.2.2.2.1 (tn x)) S.1.1)), st_l S (ld_lies S.1 (S.2.2.2.2.2.2.2 (tn x)) (op_load_go (S.2.2.2.2.2.2.2 (tn x)) (min (S.2.2.2.2.2.2.1 (tn x)) S.1.1))))) else fnd S 0
theorem ld_lies_0 (σ : aL) (ns : Nat → Int32) : ld_lies σ ns 0 = σ := by simp [ld_lies]
theorem ld_lies_s (σ : aL) (ns : Nat → Int32) (c : Nat) : ld_lies σ ns (c + 1) = ld_cset (ld_lies σ ns c) c (k_set (σ.2.1 c) 4 (tn (ns c))) := by
  unfold ld_lies ld_cset
  congr 2
  funext c'
  by_cases e : c' = c
  · subst e; simp
  · by_cases e2 : c' < c
    · simp [e, e2, show c' < c + 1 by omega]
    · simp [e, e2, show ¬ c' < c + 1 by omega]
theorem ld_lies_at (σ : aL) (ns : Nat → Int32) (c : Nat) : (ld_lies σ ns c).2.1 c = σ.2.1 c := by simp [ld_lies]
set_option maxRecDepth 100000 in
theorem c_isMissing {G : mG} {I : Nat → Nat → Int32} {J : Nat → Nat → Int64} {t : Nat} {s b : Nat} (hs : s < 4) (hb : I (68 + 2 * s) 1 = nI b) (h32 : b ≤ 32) : zC G yX4_isMissing (eX4_isMissing (g_rmv 0)) [.ref (68 + 2 * s)] (mm I J t) (fun r M => r = some (.int (b2 (b = 0))) ∧ M = mm I J t) := by
  refine zC_of (by decide +kernel) rfl (by decide) (Nat.le_of_ble_eq_true rfl) ?_
  show zV G (eX4_isMissing (g_rmv 0)) (0, 0) 0 [(0, .ref (68 + 2 * s))] [] (mm I J t) _
  refine zV_aload_n dX4_isMissing_0 rfl 0 rfl rfl ?_
  refine zV_getI (x := (nI b)) 1 dX4_isMissing_1 rfl fl_RX4_15 (sh_sheet hs) (by decide) rfl hb ?_
  refine zN_if_ne (tgt := 11) dX4_isMissing_4 rfl rfl (by omega) (fun h4 => ?_) (fun h4 => ?_)
  · refine zV_iconst (v := (nI 0)) dX4_isMissing_11 rfl rfl ?_
    exact zV_ireturn dX4_isMissing_12 rfl rfl (⟨z_b0 h4, rfl⟩)
  · refine zV_iconst (v := (nI 1)) dX4_isMissing_7 rfl rfl ?_
    refine zV_goto (tgt := 12) dX4_isMissing_8 rfl ?_
    exact zV_ireturn dX4_isMissing_12 rfl rfl (⟨z_b1 h4, rfl⟩)

set_option maxRecDepth 100000 in
theorem c_fillI {G : mG} {I : Nat → Nat → Int32} {J : Nat → Nat → Int64} {t : Nat} {q : Nat} (hq : sh0[q]? = some (1, 0, 40)) {x : Int32} : zC G yJ7_fill_53178 (eJ7_fill_53178 (g_rmv 0)) [.ref q, .int x] (mm I J t) (fun r M => ∃ I', r = none ∧ M = mm I' J t ∧ (∀ j, j < 40 → I' q j = x) ∧ ∀ i, i ≠ q → I' i = I i) := by
  refine zC_of (by decide +kernel) rfl (by decide) (Nat.le_of_ble_eq_true rfl) ?_
  show zV G (eJ7_fill_53178 (g_rmv 0)) (0, 0) 0 [(0, .ref q), (1, .int x)] [] (mm I J t) _
  refine zV_iconst (v := (nI 0)) dJ7_fill_53178_0 rfl rfl ?_
  refine zV_istore_n (lv' := [(0, .ref q), (1, .int x), (2, .int (nI 0))]) dJ7_fill_53178_1 rfl rfl (by decide) rfl ?_
  refine zV_aload_n dJ7_fill_53178_2 rfl 0 rfl rfl ?_
  refine zV_alen (v := nI 40) dJ7_fill_53178_3 rfl hq (by decide) rfl ?_
  refine zV_istore_n (lv' := [(0, .ref q), (1, .int x), (2, .int (nI 0)), (3, .int (nI 40))]) dJ7_fill_53178_4 rfl rfl (by decide) rfl ?_
  refine z_for (fun c => ∀ (I1 : Nat → Nat → Int32), ((∀ j, j < c → I1 q j = x) ∧ ∀ i, i ≠ q → I1 i = I i) → zV G (eJ7_fill_53178 (g_rmv 0)) (0, 0) 5 [(0, .ref q), (1, .int x), (2, .int (nI c)), (3, .int (nI 40))] [] (mm I1 J t) _) 40 ?_ ?_ 0 (Nat.zero_le _) I ⟨fun j h => absurd h (Nat.not_lt_zero _), fun _ _ => rfl⟩
  · intro I1 h1
    refine zV_iload_n dJ7_fill_53178_5 rfl 2 rfl rfl ?_
    refine zV_iload_n dJ7_fill_53178_6 rfl 3 rfl rfl ?_
    refine zN_icmp_ge (tgt := 20) dJ7_fill_53178_7 rfl rfl (by omega) (by omega) (fun _ => ?_) (fun z => absurd z (by omega))
    exact zV_return dJ7_fill_53178_20 rfl (⟨I1, rfl, rfl, h1.1, h1.2⟩)
  · intro c hc ih
    intro I1 h1
    refine zV_iload_n dJ7_fill_53178_5 rfl 2 rfl rfl ?_
    refine zV_iload_n dJ7_fill_53178_6 rfl 3 rfl rfl ?_
    refine zN_icmp_ge (tgt := 20) dJ7_fill_53178_7 rfl rfl (by omega) (by omega) (fun z => absurd z (by omega)) (fun _ => ?_)
    refine zV_aload_n dJ7_fill_53178_10 rfl 0 rfl rfl ?_
    refine zV_iload_n dJ7_fill_53178_11 rfl 2 rfl rfl ?_
    refine zV_iload_n dJ7_fill_53178_12 rfl 1 rfl rfl ?_
    refine zV_iastore c dJ7_fill_53178_13 rfl hq rfl (by omega) (by decide)  ?_
    refine zV_iinc (y := (nI (c + 1))) (lv' := [(0, .ref q), (1, .int x), (2, .int (nI (c + 1))), (3, .int (nI 40))]) dJ7_fill_53178_14 rfl 2 rfl (nI_1 _) (by decide) rfl ?_
    refine zV_goto (tgt := 5) dJ7_fill_53178_17 rfl ?_
    exact ih _ ⟨fun j hj => by
        by_cases e : j = c
        · rw [e, up2_same]
        · rw [up2_nk e]; exact h1.1 j (by omega), fun i hi => by rw [← h1.2 i hi]; funext k; exact up2_ni hi⟩

set_option maxRecDepth 100000 in
theorem c_clear {G : mG} {I : Nat → Nat → Int32} {J : Nat → Nat → Int64} {t : Nat} {s b z : Nat} (hs : s < 4) (h32 : b ≤ 32) (hz : z ≤ 40) : zC G yX4_clear (eX4_clear (g_rmv 1)) [.ref (68 + 2 * s), .int (nI b), .int (nI z)] (mm I J t) (fun r M => ∃ I', r = none ∧ M = mm I' J t ∧ I' (68 + 2 * s) 1 = nI b ∧ I' (68 + 2 * s) 2 = nI (if b = 0 then 0 else z) ∧ (∀ j, j < 40 → I' (69 + 2 * s) j = nI 0) ∧ ∀ i, i ≠ 68 + 2 * s → i ≠ 69 + 2 * s → I' i = I i) := by
  refine zC_of (by decide +kernel) rfl (by decide) (Nat.le_of_ble_eq_true rfl) ?_
  show zV G (eX4_clear (g_rmv 1)) (0, 0) 0 [(0, .ref (68 + 2 * s)), (1, .int (nI b)), (2, .int (nI z))] [] (mm I J t) _
  refine zV_aload_n dX4_clear_0 rfl 0 rfl rfl ?_
  refine zV_iload_n dX4_clear_1 rfl 1 rfl rfl ?_
  refine zV_puti 1 dX4_clear_2 rfl fl_RX4_15 (sh_sheet hs) (by decide) rfl rfl rfl ?_
  refine zV_aload_n dX4_clear_5 rfl 0 rfl rfl ?_
  refine zV_iload_n dX4_clear_6 rfl 1 rfl rfl ?_
  refine zN_if_ne (tgt := 14) dX4_clear_7 rfl rfl (by omega) (fun h7 => ?_) (fun h7 => ?_)
  · refine zV_iload_n dX4_clear_14 rfl 2 rfl rfl ?_
    refine zV_puti 2 dX4_clear_15 rfl fl_RX4_19 (sh_sheet hs) (by decide) rfl rfl rfl ?_
    refine zV_aload_n dX4_clear_18 rfl 0 rfl rfl ?_
    refine zV_getr (q' := (69 + 2 * s)) 0 dX4_clear_19 rfl fl_RX4_9 (sh_sheet hs) (by decide) rfl (R_nums hs) ?_
    refine zV_iconst (v := (nI 0)) dX4_clear_22 rfl rfl ?_
    refine zV_callS (E' := eJ7_fill_53178 (g_rmv 0)) (av := [.ref (69 + 2 * s), .int (nI 0)]) (st := []) dX4_clear_23 rfl (k_RX4_22 _) rfl ⟨by decide, by decide⟩ ⟨by decide, by decide⟩ (Or.inl rfl) rfl (Nat.le_of_ble_eq_true rfl) (c_fillI (x := (nI 0)) (sh_nums hs)) (fun r23 M23 z => ?_)
    obtain ⟨I23, rfl, rfl, hX23, hF23⟩ := z
    show zV G (eX4_clear (g_rmv 1)) (0, 0) 26 [(0, .ref (68 + 2 * s)), (1, .int (nI b)), (2, .int (nI z))] [] (mm I23 J t) _
    exact zV_return dX4_clear_26 rfl (⟨_, rfl, rfl, by rw [hF23 _ (by omega), up2_nk (by decide), up2_same], by rw [hF23 _ (by omega), up2_same]; simp [h7], hX23, fun i h1 h2 => by rw [hF23 i h2]; funext k; rw [up2_ni h1, up2_ni h1]⟩)
  · refine zV_iconst (v := (nI 0)) dX4_clear_10 rfl rfl ?_
    refine zV_goto (tgt := 15) dX4_clear_11 rfl ?_
    refine zV_puti 2 dX4_clear_15 rfl fl_RX4_19 (sh_sheet hs) (by decide) rfl rfl rfl ?_
    refine zV_aload_n dX4_clear_18 rfl 0 rfl rfl ?_
    refine zV_getr (q' := (69 + 2 * s)) 0 dX4_clear_19 rfl fl_RX4_9 (sh_sheet hs) (by decide) rfl (R_nums hs) ?_
    refine zV_iconst (v := (nI 0)) dX4_clear_22 rfl rfl ?_
    refine zV_callS (E' := eJ7_fill_53178 (g_rmv 0)) (av := [.ref (69 + 2 * s), .int (nI 0)]) (st := []) dX4_clear_23 rfl (k_RX4_22 _) rfl ⟨by decide, by decide⟩ ⟨by decide, by decide⟩ (Or.inl rfl) rfl (Nat.le_of_ble_eq_true rfl) (c_fillI (x := (nI 0)) (sh_nums hs)) (fun r23 M23 z => ?_)
    obtain ⟨I23, rfl, rfl, hX23, hF23⟩ := z
    show zV G (eX4_clear (g_rmv 1)) (0, 0) 26 [(0, .ref (68 + 2 * s)), (1, .int (nI b)), (2, .int (nI z))] [] (mm I23 J t) _
    exact zV_return dX4_clear_26 rfl (⟨_, rfl, rfl, by rw [hF23 _ (by omega), up2_nk (by decide), up2_same], by rw [hF23 _ (by omega), up2_same]; simp [h7], hX23, fun i h1 h2 => by rw [hF23 i h2]; funext k; rw [up2_ni h1, up2_ni h1]⟩)

set_option maxRecDepth 100000 in
theorem c_put {G : mG} {I : Nat → Nat → Int32} {J : Nat → Nat → Int64} {t : Nat} {s b : Nat} (hs : s < 4) (hb : I (68 + 2 * s) 1 = nI b) (h32 : b ≤ 32) {i : Nat} (hi : i < 40) {v : Int32} : zC G yX4_put (eX4_put (g_rmv 0)) [.ref (68 + 2 * s), .int (nI i), .int v] (mm I J t) (fun r M => r = none ∧ M = mm (up2 I (69 + 2 * s) i (cutTo v b)) J t) := by
  refine zC_of (by decide +kernel) rfl (by decide) (Nat.le_of_ble_eq_true rfl) ?_
  show zV G (eX4_put (g_rmv 0)) (0, 0) 0 [(0, .ref (68 + 2 * s)), (1, .int (nI i)), (2, .int v)] [] (mm I J t) _
  refine zV_aload_n dX4_put_0 rfl 0 rfl rfl ?_
  refine zV_getI (x := (nI b)) 1 dX4_put_1 rfl fl_RX4_15 (sh_sheet hs) (by decide) rfl hb ?_
  refine zV_bipush (v := (nI 8)) dX4_put_4 rfl rfl ?_
  refine zN_icmp_ne (tgt := 20) dX4_put_6 rfl rfl (by omega) (by omega) (fun h6 => ?_) (fun h6 => ?_)
  · refine zV_aload_n dX4_put_20 rfl 0 rfl rfl ?_
    refine zV_getI (x := (nI b)) 1 dX4_put_21 rfl fl_RX4_15 (sh_sheet hs) (by decide) rfl hb ?_
    refine zV_bipush (v := (nI 16)) dX4_put_24 rfl rfl ?_
    refine zN_icmp_ne (tgt := 40) dX4_put_26 rfl rfl (by omega) (by omega) (fun h26 => ?_) (fun h26 => ?_)
    · refine zV_aload_n dX4_put_40 rfl 0 rfl rfl ?_
      refine zV_getr (q' := (69 + 2 * s)) 0 dX4_put_41 rfl fl_RX4_9 (sh_sheet hs) (by decide) rfl (R_nums hs) ?_
      refine zV_iload_n dX4_put_44 rfl 1 rfl rfl ?_
      refine zV_iload_n dX4_put_45 rfl 2 rfl rfl ?_
      refine zV_iastore i dX4_put_46 rfl (sh_nums hs) rfl (by omega) (by decide)  ?_
      exact zV_return dX4_put_47 rfl (⟨rfl, by unfold cutTo; rw [if_neg h6, if_neg h26]⟩)
    · refine zV_aload_n dX4_put_29 rfl 0 rfl rfl ?_
      refine zV_getr (q' := (69 + 2 * s)) 0 dX4_put_30 rfl fl_RX4_9 (sh_sheet hs) (by decide) rfl (R_nums hs) ?_
      refine zV_iload_n dX4_put_33 rfl 1 rfl rfl ?_
      refine zV_iload_n dX4_put_34 rfl 2 rfl rfl ?_
      refine zA_i2s (z := ((v : Int32).toInt16.toInt32)) dX4_put_35 rfl (rfl) ?_
      refine zV_iastore i dX4_put_36 rfl (sh_nums hs) rfl (by omega) (by decide)  ?_
      refine zV_goto (tgt := 47) dX4_put_37 rfl ?_
      exact zV_return dX4_put_47 rfl (⟨rfl, by unfold cutTo; rw [if_neg h6, if_pos h26]⟩)
  · refine zV_aload_n dX4_put_9 rfl 0 rfl rfl ?_
    refine zV_getr (q' := (69 + 2 * s)) 0 dX4_put_10 rfl fl_RX4_9 (sh_sheet hs) (by decide) rfl (R_nums hs) ?_
    refine zV_iload_n dX4_put_13 rfl 1 rfl rfl ?_
    refine zV_iload_n dX4_put_14 rfl 2 rfl rfl ?_
    refine zA_i2b (z := ((v : Int32).toInt8.toInt32)) dX4_put_15 rfl (rfl) ?_
    refine zV_iastore i dX4_put_16 rfl (sh_nums hs) rfl (by omega) (by decide)  ?_
    refine zV_goto (tgt := 47) dX4_put_17 rfl ?_
    exact zV_return dX4_put_47 rfl (⟨rfl, by unfold cutTo; rw [if_pos h6]⟩)

set_option maxRecDepth 100000 in
theorem c_seek0 {G : mG} {I : Nat → Nat → Int32} {J : Nat → Nat → Int64} {t : Nat} {x : Int32} (h : ¬ inR x 3) : zC G yX6_seekSheet (eX6_seekSheet (g_rmv 2)) [.ref 0, .int x] (mm I J t) (fun r M => r = some (.int (-1000001)) ∧ M = mm I J t) := by
  refine zC_of (by decide +kernel) rfl (by decide) (Nat.le_of_ble_eq_true rfl) ?_
  show zV G (eX6_seekSheet (g_rmv 2)) (0, 0) 0 [(0, .ref 0), (1, .int x)] [] (mm I J t) _
  refine zV_iload_n dX6_seekSheet_0 rfl 1 rfl rfl ?_
  refine zV_callS (E' := eX6_isSheet (g_rmv 1)) (av := [.int x]) (st := []) dX6_seekSheet_1 rfl (k_RX6_256 _) rfl ⟨by decide, by decide⟩ ⟨by decide, by decide⟩ (Or.inl rfl) rfl (Nat.le_of_ble_eq_true rfl) (c_isSheet (x := x)) (fun r1 M1 z => ?_)
  obtain ⟨rfl, rfl⟩ := z
  show zV G (eX6_seekSheet (g_rmv 2)) (0, 0) 4 [(0, .ref 0), (1, .int x)] [.int (b2 (inR x 3))] (mm I J t) _
  refine zB_if_ne (tgt := 10) dX6_seekSheet_4 rfl rfl  (fun z => absurd z h) (fun _ => ?_)
  refine zV_ldc (v := (-1000001)) dX6_seekSheet_7 rfl tw264 ?_
  exact zV_ireturn dX6_seekSheet_9 rfl rfl (⟨rfl, rfl⟩)

set_option maxRecDepth 100000 in
theorem c_seek5 {G : mG} {I : Nat → Nat → Int32} {J : Nat → Nat → Int64} {t : Nat} {B : Nat} {S : aS} (hC : InvC I S) (hw : wfS B S) {s : Nat} (hs : s < 4) (h : S.2.2.2.2.2.1 s = 0) : zC G yX6_seekSheet (eX6_seekSheet (g_rmv 2)) [.ref 0, .int (nI s)] (mm I J t) (fun r M => r = some (.int (-1000006)) ∧ M = mm I J t) := by
  refine zC_of (by decide +kernel) rfl (by decide) (Nat.le_of_ble_eq_true rfl) ?_
  have bs := (hw.2.2.2.2.2.1 s hs).1
  show zV G (eX6_seekSheet (g_rmv 2)) (0, 0) 0 [(0, .ref 0), (1, .int (nI s))] [] (mm I J t) _
  refine zV_iload_n dX6_seekSheet_0 rfl 1 rfl rfl ?_
  refine zV_callS (E' := eX6_isSheet (g_rmv 1)) (av := [.int (nI s)]) (st := []) dX6_seekSheet_1 rfl (k_RX6_256 _) rfl ⟨by decide, by decide⟩ ⟨by decide, by decide⟩ (Or.inl rfl) rfl (Nat.le_of_ble_eq_true rfl) (c_isSheet (x := (nI s))) (fun r1 M1 z => ?_)
  obtain ⟨rfl, rfl⟩ := z
  show zV G (eX6_seekSheet (g_rmv 2)) (0, 0) 4 [(0, .ref 0), (1, .int (nI s))] [.int (b2 (inR (nI s) 3))] (mm I J t) _
  refine zB_if_ne (tgt := 10) dX6_seekSheet_4 rfl rfl  (fun _ => ?_) (fun z => absurd z (fun z => z ⟨nI_pos' (by omega), nI_le (by omega) (by decide)⟩))
  refine zV_aload_n dX6_seekSheet_10 rfl 0 rfl rfl ?_
  refine zV_getr (q' := 43) 7 dX6_seekSheet_11 rfl fl_RX6_43 rfl (by decide) rfl rfl ?_
  refine zV_iload_n dX6_seekSheet_14 rfl 1 rfl rfl ?_
  refine zV_aaload (q' := (68 + 2 * s)) s dX6_seekSheet_15 rfl rfl rfl (by decide) rfl (by omega) (by decide) (R_sheet (by omega)) ?_
  refine zV_callV (E' := eX4_isMissing (g_rmv 0)) (av := []) (st := []) (b := (68 + 2 * s)) dX6_seekSheet_16 rfl (k_RX6_272 _) rfl ⟨by decide, by decide⟩ ⟨by decide, by decide⟩ (Or.inl rfl) rfl (Nat.le_of_ble_eq_true rfl) (sh_sheet (by omega)) rfl rfl (c_isMissing (b := S.2.2.2.2.2.1 s) hs (hC.2.2.2.2.2.2 s hs).1 (by omega)) (fun r16 M16 z => ?_)
  obtain ⟨rfl, rfl⟩ := z
  show zV G (eX6_seekSheet (g_rmv 2)) (0, 0) 19 [(0, .ref 0), (1, .int (nI s))] [.int (b2 (S.2.2.2.2.2.1 s = 0))] (mm I J t) _
  refine zB_if_eq (tgt := 27) dX6_seekSheet_19 rfl rfl  (fun z => absurd z (fun z => z h)) (fun _ => ?_)
  refine zV_ldc (v := (-1000006)) dX6_seekSheet_22 rfl tw780 ?_
  refine zV_goto (tgt := 28) dX6_seekSheet_24 rfl ?_
  exact zV_ireturn dX6_seekSheet_28 rfl rfl (⟨rfl, rfl⟩)

set_option maxRecDepth 100000 in
theorem c_seekF {G : mG} {I : Nat → Nat → Int32} {J : Nat → Nat → Int64} {t : Nat} {B : Nat} {S : aS} (hC : InvC I S) (hw : wfS B S) {s : Nat} (hs : s < 4) (h : ¬ S.2.2.2.2.2.1 s = 0) : zC G yX6_seekSheet (eX6_seekSheet (g_rmv 2)) [.ref 0, .int (nI s)] (mm I J t) (fun r M => r = some (.int (nI 0)) ∧ M = mm I J t) := by
  refine zC_of (by decide +kernel) rfl (by decide) (Nat.le_of_ble_eq_true rfl) ?_
  have bs := (hw.2.2.2.2.2.1 s hs).1
  show zV G (eX6_seekSheet (g_rmv 2)) (0, 0) 0 [(0, .ref 0), (1, .int (nI s))] [] (mm I J t) _
  refine zV_iload_n dX6_seekSheet_0 rfl 1 rfl rfl ?_
  refine zV_callS (E' := eX6_isSheet (g_rmv 1)) (av := [.int (nI s)]) (st := []) dX6_seekSheet_1 rfl (k_RX6_256 _) rfl ⟨by decide, by decide⟩ ⟨by decide, by decide⟩ (Or.inl rfl) rfl (Nat.le_of_ble_eq_true rfl) (c_isSheet (x := (nI s))) (fun r1 M1 z => ?_)
  obtain ⟨rfl, rfl⟩ := z
  show zV G (eX6_seekSheet (g_rmv 2)) (0, 0) 4 [(0, .ref 0), (1, .int (nI s))] [.int (b2 (inR (nI s) 3))] (mm I J t) _
  refine zB_if_ne (tgt := 10) dX6_seekSheet_4 rfl rfl  (fun _ => ?_) (fun z => absurd z (fun z => z ⟨nI_pos' (by omega), nI_le (by omega) (by decide)⟩))
  refine zV_aload_n dX6_seekSheet_10 rfl 0 rfl rfl ?_
  refine zV_getr (q' := 43) 7 dX6_seekSheet_11 rfl fl_RX6_43 rfl (by decide) rfl rfl ?_
  refine zV_iload_n dX6_seekSheet_14 rfl 1 rfl rfl ?_
  refine zV_aaload (q' := (68 + 2 * s)) s dX6_seekSheet_15 rfl rfl rfl (by decide) rfl (by omega) (by decide) (R_sheet (by omega)) ?_
  refine zV_callV (E' := eX4_isMissing (g_rmv 0)) (av := []) (st := []) (b := (68 + 2 * s)) dX6_seekSheet_16 rfl (k_RX6_272 _) rfl ⟨by decide, by decide⟩ ⟨by decide, by decide⟩ (Or.inl rfl) rfl (Nat.le_of_ble_eq_true rfl) (sh_sheet (by omega)) rfl rfl (c_isMissing (b := S.2.2.2.2.2.1 s) hs (hC.2.2.2.2.2.2 s hs).1 (by omega)) (fun r16 M16 z => ?_)
  obtain ⟨rfl, rfl⟩ := z
  show zV G (eX6_seekSheet (g_rmv 2)) (0, 0) 19 [(0, .ref 0), (1, .int (nI s))] [.int (b2 (S.2.2.2.2.2.1 s = 0))] (mm I J t) _
  refine zB_if_eq (tgt := 27) dX6_seekSheet_19 rfl rfl  (fun _ => ?_) (fun z => absurd z h)
  refine zV_iconst (v := (nI 0)) dX6_seekSheet_27 rfl rfl ?_
  exact zV_ireturn dX6_seekSheet_28 rfl rfl (⟨rfl, rfl⟩)

set_option maxRecDepth 100000 in
theorem p_sheet {G : mG} {I : Nat → Nat → Int32} {J : Nat → Nat → Int64} {t : Nat} {B : Nat} {S : aS} (hC : InvC I S) (hw : wfS B S) {x y z : Int32} : zC G yX6_sheet (eX6_sheet (g_rmv 2)) [.ref 0, .int x, .int y, .int z] (mm I J t) (fun r M => PC I (op_sheet S x y z) r M) := by
  refine zC_of (by decide +kernel) rfl (by decide) (Nat.le_of_ble_eq_true rfl) ?_
  have n10 := hw.1.1
  show zV G (eX6_sheet (g_rmv 2)) (0, 0) 0 [(0, .ref 0), (1, .int x), (2, .int y), (3, .int z)] [] (mm I J t) _
  refine zV_iload_n dX6_sheet_0 rfl 1 rfl rfl ?_
  refine zV_callS (E' := eX6_isSheet (g_rmv 1)) (av := [.int x]) (st := []) dX6_sheet_1 rfl (k_RX6_256 _) rfl ⟨by decide, by decide⟩ ⟨by decide, by decide⟩ (Or.inl rfl) rfl (Nat.le_of_ble_eq_true rfl) (c_isSheet (x := x)) (fun r1 M1 z => ?_)
  obtain ⟨rfl, rfl⟩ := z
  show zV G (eX6_sheet (g_rmv 2)) (0, 0) 4 [(0, .ref 0), (1, .int x), (2, .int y), (3, .int z)] [.int (b2 (inR x 3))] (mm I J t) _
  refine zB_if_eq (tgt := 29) dX6_sheet_4 rfl rfl  (fun h4 => ?_) (fun h4 => ?_)
  · refine zV_aload_n dX6_sheet_29 rfl 0 rfl rfl ?_
    refine zV_ldc (v := (-1000001)) dX6_sheet_30 rfl tw264 ?_
    refine zV_callV (E' := eX6_tell (g_rmv 1)) (av := [.int (-1000001)]) (st := []) (b := 0) dX6_sheet_32 rfl (k_RX6_70 _) rfl ⟨by decide, by decide⟩ ⟨by decide, by decide⟩ (Or.inl rfl) rfl (Nat.le_of_ble_eq_true rfl) rfl rfl rfl (c_tell (w := 0) (by decide) (by decide)) (fun r32 M32 z => ?_)
    obtain ⟨rfl, rfl⟩ := z
    show zV G (eX6_sheet (g_rmv 2)) (0, 0) 35 [(0, .ref 0), (1, .int x), (2, .int y), (3, .int z)] [.int (fdg 0)] (mm (up2 I 67 0 (I 67 0 + nI 1)) J t) _
    exact zV_ireturn dX6_sheet_35 rfl rfl (PC.tell hC hw (by unfold op_sheet; rw [if_neg h4]) (fun _ _ => rfl))
  · obtain ⟨s, hs3, rfl⟩ := (inR_iff (by decide)).mp h4
    have hs : s < 4 := by omega
    by_cases hok : okBits y
    · rcases hok with rfl | rfl | rfl | rfl
      · show zV G (eX6_sheet (g_rmv 2)) (0, 0) 7 [(0, .ref 0), (1, .int (nI s)), (2, .int (nI 0)), (3, .int z)] [] (mm I J t) _
        refine zV_iload_n dX6_sheet_7 rfl 2 rfl rfl ?_
        refine zN_if_eq (tgt := 36) dX6_sheet_8 rfl rfl (by decide) (fun _ => ?_) (fun z => absurd z (by decide))
        refine zV_iload_n dX6_sheet_36 rfl 3 rfl rfl ?_
        refine zV_if_ge (tgt := 48) dX6_sheet_37 rfl rfl  (fun h37 => ?_) (fun h37 => ?_)
        · refine zV_iload_n dX6_sheet_48 rfl 3 rfl rfl ?_
          refine zV_bipush (v := (nI 40)) dX6_sheet_49 rfl rfl ?_
          refine zV_icmp_le (tgt := 61) dX6_sheet_51 rfl rfl  (fun h51 => ?_) (fun h51 => ?_)
          · obtain ⟨n, hn, rfl⟩ := (inR_iff (by decide)).mp ⟨h37, h51⟩
            refine zV_aload_n dX6_sheet_61 rfl 0 rfl rfl ?_
            refine zV_getr (q' := 43) 7 dX6_sheet_62 rfl fl_RX6_43 rfl (by decide) rfl rfl ?_
            refine zV_iload_n dX6_sheet_65 rfl 1 rfl rfl ?_
            refine zV_aaload (q' := (68 + 2 * s)) s dX6_sheet_66 rfl rfl rfl (by decide) rfl (by omega) (by decide) (R_sheet (by omega)) ?_
            refine zV_iload_n dX6_sheet_67 rfl 2 rfl rfl ?_
            refine zV_iload_n dX6_sheet_68 rfl 3 rfl rfl ?_
            refine zV_callV (E' := eX4_clear (g_rmv 1)) (av := [.int (nI 0), .int (nI n)]) (st := []) (b := (68 + 2 * s)) dX6_sheet_69 rfl (k_RX6_260 _) rfl ⟨by decide, by decide⟩ ⟨by decide, by decide⟩ (Or.inl rfl) rfl (Nat.le_of_ble_eq_true rfl) (sh_sheet (by omega)) rfl rfl (c_clear (s := s) (b := 0) (z := n) hs (by decide) (by omega)) (fun r69 M69 z => ?_)
            obtain ⟨I69, rfl, rfl, hB69, hZ69, hX69, hF69⟩ := z
            show zV G (eX6_sheet (g_rmv 2)) (0, 0) 72 [(0, .ref 0), (1, .int (nI s)), (2, .int (nI 0)), (3, .int (nI n))] [] (mm I69 J t) _
            refine zV_aload_n dX6_sheet_72 rfl 0 rfl rfl ?_
            refine zV_getr (q' := 43) 7 dX6_sheet_73 rfl fl_RX6_43 rfl (by decide) rfl rfl ?_
            refine zV_iload_n dX6_sheet_76 rfl 1 rfl rfl ?_
            refine zV_aaload (q' := (68 + 2 * s)) s dX6_sheet_77 rfl rfl rfl (by decide) rfl (by omega) (by decide) (R_sheet (by omega)) ?_
            refine zV_getI (x := (nI 0)) 2 dX6_sheet_78 rfl fl_RX6_263 (sh_sheet (by omega)) (by decide) rfl hZ69 ?_
            exact zV_ireturn dX6_sheet_81 rfl rfl (⟨_, _, _, by rw [show op_sheet S (nI s) (nI 0) (nI n) = (nI 0, st_s S (upN S.2.2.2.2.2.1 s 0) (upN S.2.2.2.2.2.2.1 s 0) (upN S.2.2.2.2.2.2.2 s (fun _ => nI 0))) by unfold op_sheet; rw [if_pos h4, if_pos (show okBits (nI 0) from (Or.inl rfl)), if_neg (Int32.not_lt.mpr h37), if_pos h51, tn_nI (show s < 2 ^ 31 by omega), show tn (nI 0) = 0 from tn_nI (by decide), if_pos rfl]], rfl, by rw [show op_sheet S (nI s) (nI 0) (nI n) = (nI 0, st_s S (upN S.2.2.2.2.2.1 s 0) (upN S.2.2.2.2.2.2.1 s 0) (upN S.2.2.2.2.2.2.2 s (fun _ => nI 0))) by unfold op_sheet; rw [if_pos h4, if_pos (show okBits (nI 0) from (Or.inl rfl)), if_neg (Int32.not_lt.mpr h37), if_pos h51, tn_nI (show s < 2 ^ 31 by omega), show tn (nI 0) = 0 from tn_nI (by decide), if_pos rfl]]; exact hC.sheet hw hs hB69 hZ69 hX69 (fun i h1 h2 _ => hF69 i h1 h2), fun i hi => hF69 i (by omega) (by omega)⟩)
          · refine zV_aload_n dX6_sheet_54 rfl 0 rfl rfl ?_
            refine zV_ldc (v := (-1000001)) dX6_sheet_55 rfl tw264 ?_
            refine zV_callV (E' := eX6_tell (g_rmv 1)) (av := [.int (-1000001)]) (st := []) (b := 0) dX6_sheet_57 rfl (k_RX6_70 _) rfl ⟨by decide, by decide⟩ ⟨by decide, by decide⟩ (Or.inl rfl) rfl (Nat.le_of_ble_eq_true rfl) rfl rfl rfl (c_tell (w := 0) (by decide) (by decide)) (fun r57 M57 z => ?_)
            obtain ⟨rfl, rfl⟩ := z
            show zV G (eX6_sheet (g_rmv 2)) (0, 0) 60 [(0, .ref 0), (1, .int (nI s)), (2, .int (nI 0)), (3, .int z)] [.int (fdg 0)] (mm (up2 I 67 0 (I 67 0 + nI 1)) J t) _
            exact zV_ireturn dX6_sheet_60 rfl rfl (PC.tell hC hw (by unfold op_sheet; rw [if_pos h4, if_pos (show okBits (nI 0) from (Or.inl rfl)), if_neg (Int32.not_lt.mpr h37), if_neg h51]) (fun _ _ => rfl))
        · refine zV_aload_n dX6_sheet_40 rfl 0 rfl rfl ?_
          refine zV_ldcw (v := (-1000007)) dX6_sheet_41 rfl tw795 ?_
          refine zV_callV (E' := eX6_tell (g_rmv 1)) (av := [.int (-1000007)]) (st := []) (b := 0) dX6_sheet_44 rfl (k_RX6_70 _) rfl ⟨by decide, by decide⟩ ⟨by decide, by decide⟩ (Or.inl rfl) rfl (Nat.le_of_ble_eq_true rfl) rfl rfl rfl (c_tell (w := 6) (by decide) (by decide)) (fun r44 M44 z => ?_)
          obtain ⟨rfl, rfl⟩ := z
          show zV G (eX6_sheet (g_rmv 2)) (0, 0) 47 [(0, .ref 0), (1, .int (nI s)), (2, .int (nI 0)), (3, .int z)] [.int (fdg 6)] (mm (up2 I 67 6 (I 67 6 + nI 1)) J t) _
          exact zV_ireturn dX6_sheet_47 rfl rfl (PC.tell hC hw (by unfold op_sheet; rw [if_pos h4, if_pos (show okBits (nI 0) from (Or.inl rfl)), if_pos (Int32.not_le.mp h37)]) (fun _ _ => rfl))
      · show zV G (eX6_sheet (g_rmv 2)) (0, 0) 7 [(0, .ref 0), (1, .int (nI s)), (2, .int (nI 8)), (3, .int z)] [] (mm I J t) _
        refine zV_iload_n dX6_sheet_7 rfl 2 rfl rfl ?_
        refine zN_if_eq (tgt := 36) dX6_sheet_8 rfl rfl (by decide) (fun z => absurd z (by decide)) (fun _ => ?_)
        refine zV_iload_n dX6_sheet_11 rfl 2 rfl rfl ?_
        refine zV_bipush (v := (nI 8)) dX6_sheet_12 rfl rfl ?_
        refine zN_icmp_eq (tgt := 36) dX6_sheet_14 rfl rfl (by decide) (by decide) (fun _ => ?_) (fun z => absurd z (by decide))
        refine zV_iload_n dX6_sheet_36 rfl 3 rfl rfl ?_
        refine zV_if_ge (tgt := 48) dX6_sheet_37 rfl rfl  (fun h37 => ?_) (fun h37 => ?_)
        · refine zV_iload_n dX6_sheet_48 rfl 3 rfl rfl ?_
          refine zV_bipush (v := (nI 40)) dX6_sheet_49 rfl rfl ?_
          refine zV_icmp_le (tgt := 61) dX6_sheet_51 rfl rfl  (fun h51 => ?_) (fun h51 => ?_)
          · obtain ⟨n, hn, rfl⟩ := (inR_iff (by decide)).mp ⟨h37, h51⟩
            refine zV_aload_n dX6_sheet_61 rfl 0 rfl rfl ?_
            refine zV_getr (q' := 43) 7 dX6_sheet_62 rfl fl_RX6_43 rfl (by decide) rfl rfl ?_
            refine zV_iload_n dX6_sheet_65 rfl 1 rfl rfl ?_
            refine zV_aaload (q' := (68 + 2 * s)) s dX6_sheet_66 rfl rfl rfl (by decide) rfl (by omega) (by decide) (R_sheet (by omega)) ?_
            refine zV_iload_n dX6_sheet_67 rfl 2 rfl rfl ?_
            refine zV_iload_n dX6_sheet_68 rfl 3 rfl rfl ?_
            refine zV_callV (E' := eX4_clear (g_rmv 1)) (av := [.int (nI 8), .int (nI n)]) (st := []) (b := (68 + 2 * s)) dX6_sheet_69 rfl (k_RX6_260 _) rfl ⟨by decide, by decide⟩ ⟨by decide, by decide⟩ (Or.inl rfl) rfl (Nat.le_of_ble_eq_true rfl) (sh_sheet (by omega)) rfl rfl (c_clear (s := s) (b := 8) (z := n) hs (by decide) (by omega)) (fun r69 M69 z => ?_)
            obtain ⟨I69, rfl, rfl, hB69, hZ69, hX69, hF69⟩ := z
            show zV G (eX6_sheet (g_rmv 2)) (0, 0) 72 [(0, .ref 0), (1, .int (nI s)), (2, .int (nI 8)), (3, .int (nI n))] [] (mm I69 J t) _
            refine zV_aload_n dX6_sheet_72 rfl 0 rfl rfl ?_
            refine zV_getr (q' := 43) 7 dX6_sheet_73 rfl fl_RX6_43 rfl (by decide) rfl rfl ?_
            refine zV_iload_n dX6_sheet_76 rfl 1 rfl rfl ?_
            refine zV_aaload (q' := (68 + 2 * s)) s dX6_sheet_77 rfl rfl rfl (by decide) rfl (by omega) (by decide) (R_sheet (by omega)) ?_
            refine zV_getI (x := (nI n)) 2 dX6_sheet_78 rfl fl_RX6_263 (sh_sheet (by omega)) (by decide) rfl hZ69 ?_
            exact zV_ireturn dX6_sheet_81 rfl rfl (⟨_, _, _, by rw [show op_sheet S (nI s) (nI 8) (nI n) = (nI n, st_s S (upN S.2.2.2.2.2.1 s 8) (upN S.2.2.2.2.2.2.1 s n) (upN S.2.2.2.2.2.2.2 s (fun _ => nI 0))) by unfold op_sheet; rw [if_pos h4, if_pos (show okBits (nI 8) from (Or.inr (Or.inl rfl))), if_neg (Int32.not_lt.mpr h37), if_pos h51, tn_nI (show s < 2 ^ 31 by omega), show tn (nI 8) = 8 from tn_nI (by decide), if_neg (show ¬ nI 8 = nI 0 by decide), tn_nI (show n < 2 ^ 31 by omega)]], rfl, by rw [show op_sheet S (nI s) (nI 8) (nI n) = (nI n, st_s S (upN S.2.2.2.2.2.1 s 8) (upN S.2.2.2.2.2.2.1 s n) (upN S.2.2.2.2.2.2.2 s (fun _ => nI 0))) by unfold op_sheet; rw [if_pos h4, if_pos (show okBits (nI 8) from (Or.inr (Or.inl rfl))), if_neg (Int32.not_lt.mpr h37), if_pos h51, tn_nI (show s < 2 ^ 31 by omega), show tn (nI 8) = 8 from tn_nI (by decide), if_neg (show ¬ nI 8 = nI 0 by decide), tn_nI (show n < 2 ^ 31 by omega)]]; exact hC.sheet hw hs hB69 hZ69 hX69 (fun i h1 h2 _ => hF69 i h1 h2), fun i hi => hF69 i (by omega) (by omega)⟩)
          · refine zV_aload_n dX6_sheet_54 rfl 0 rfl rfl ?_
            refine zV_ldc (v := (-1000001)) dX6_sheet_55 rfl tw264 ?_
            refine zV_callV (E' := eX6_tell (g_rmv 1)) (av := [.int (-1000001)]) (st := []) (b := 0) dX6_sheet_57 rfl (k_RX6_70 _) rfl ⟨by decide, by decide⟩ ⟨by decide, by decide⟩ (Or.inl rfl) rfl (Nat.le_of_ble_eq_true rfl) rfl rfl rfl (c_tell (w := 0) (by decide) (by decide)) (fun r57 M57 z => ?_)
            obtain ⟨rfl, rfl⟩ := z
            show zV G (eX6_sheet (g_rmv 2)) (0, 0) 60 [(0, .ref 0), (1, .int (nI s)), (2, .int (nI 8)), (3, .int z)] [.int (fdg 0)] (mm (up2 I 67 0 (I 67 0 + nI 1)) J t) _
            exact zV_ireturn dX6_sheet_60 rfl rfl (PC.tell hC hw (by unfold op_sheet; rw [if_pos h4, if_pos (show okBits (nI 8) from (Or.inr (Or.inl rfl))), if_neg (Int32.not_lt.mpr h37), if_neg h51]) (fun _ _ => rfl))
        · refine zV_aload_n dX6_sheet_40 rfl 0 rfl rfl ?_
          refine zV_ldcw (v := (-1000007)) dX6_sheet_41 rfl tw795 ?_
          refine zV_callV (E' := eX6_tell (g_rmv 1)) (av := [.int (-1000007)]) (st := []) (b := 0) dX6_sheet_44 rfl (k_RX6_70 _) rfl ⟨by decide, by decide⟩ ⟨by decide, by decide⟩ (Or.inl rfl) rfl (Nat.le_of_ble_eq_true rfl) rfl rfl rfl (c_tell (w := 6) (by decide) (by decide)) (fun r44 M44 z => ?_)
          obtain ⟨rfl, rfl⟩ := z
          show zV G (eX6_sheet (g_rmv 2)) (0, 0) 47 [(0, .ref 0), (1, .int (nI s)), (2, .int (nI 8)), (3, .int z)] [.int (fdg 6)] (mm (up2 I 67 6 (I 67 6 + nI 1)) J t) _
          exact zV_ireturn dX6_sheet_47 rfl rfl (PC.tell hC hw (by unfold op_sheet; rw [if_pos h4, if_pos (show okBits (nI 8) from (Or.inr (Or.inl rfl))), if_pos (Int32.not_le.mp h37)]) (fun _ _ => rfl))
      · show zV G (eX6_sheet (g_rmv 2)) (0, 0) 7 [(0, .ref 0), (1, .int (nI s)), (2, .int (nI 16)), (3, .int z)] [] (mm I J t) _
        refine zV_iload_n dX6_sheet_7 rfl 2 rfl rfl ?_
        refine zN_if_eq (tgt := 36) dX6_sheet_8 rfl rfl (by decide) (fun z => absurd z (by decide)) (fun _ => ?_)
        refine zV_iload_n dX6_sheet_11 rfl 2 rfl rfl ?_
        refine zV_bipush (v := (nI 8)) dX6_sheet_12 rfl rfl ?_
        refine zN_icmp_eq (tgt := 36) dX6_sheet_14 rfl rfl (by decide) (by decide) (fun z => absurd z (by decide)) (fun _ => ?_)
        refine zV_iload_n dX6_sheet_17 rfl 2 rfl rfl ?_
        refine zV_bipush (v := (nI 16)) dX6_sheet_18 rfl rfl ?_
        refine zN_icmp_eq (tgt := 36) dX6_sheet_20 rfl rfl (by decide) (by decide) (fun _ => ?_) (fun z => absurd z (by decide))
        refine zV_iload_n dX6_sheet_36 rfl 3 rfl rfl ?_
        refine zV_if_ge (tgt := 48) dX6_sheet_37 rfl rfl  (fun h37 => ?_) (fun h37 => ?_)
        · refine zV_iload_n dX6_sheet_48 rfl 3 rfl rfl ?_
          refine zV_bipush (v := (nI 40)) dX6_sheet_49 rfl rfl ?_
          refine zV_icmp_le (tgt := 61) dX6_sheet_51 rfl rfl  (fun h51 => ?_) (fun h51 => ?_)
          · obtain ⟨n, hn, rfl⟩ := (inR_iff (by decide)).mp ⟨h37, h51⟩
            refine zV_aload_n dX6_sheet_61 rfl 0 rfl rfl ?_
            refine zV_getr (q' := 43) 7 dX6_sheet_62 rfl fl_RX6_43 rfl (by decide) rfl rfl ?_
            refine zV_iload_n dX6_sheet_65 rfl 1 rfl rfl ?_
            refine zV_aaload (q' := (68 + 2 * s)) s dX6_sheet_66 rfl rfl rfl (by decide) rfl (by omega) (by decide) (R_sheet (by omega)) ?_
            refine zV_iload_n dX6_sheet_67 rfl 2 rfl rfl ?_
            refine zV_iload_n dX6_sheet_68 rfl 3 rfl rfl ?_
            refine zV_callV (E' := eX4_clear (g_rmv 1)) (av := [.int (nI 16), .int (nI n)]) (st := []) (b := (68 + 2 * s)) dX6_sheet_69 rfl (k_RX6_260 _) rfl ⟨by decide, by decide⟩ ⟨by decide, by decide⟩ (Or.inl rfl) rfl (Nat.le_of_ble_eq_true rfl) (sh_sheet (by omega)) rfl rfl (c_clear (s := s) (b := 16) (z := n) hs (by decide) (by omega)) (fun r69 M69 z => ?_)
            obtain ⟨I69, rfl, rfl, hB69, hZ69, hX69, hF69⟩ := z
            show zV G (eX6_sheet (g_rmv 2)) (0, 0) 72 [(0, .ref 0), (1, .int (nI s)), (2, .int (nI 16)), (3, .int (nI n))] [] (mm I69 J t) _
            refine zV_aload_n dX6_sheet_72 rfl 0 rfl rfl ?_
            refine zV_getr (q' := 43) 7 dX6_sheet_73 rfl fl_RX6_43 rfl (by decide) rfl rfl ?_
            refine zV_iload_n dX6_sheet_76 rfl 1 rfl rfl ?_
            refine zV_aaload (q' := (68 + 2 * s)) s dX6_sheet_77 rfl rfl rfl (by decide) rfl (by omega) (by decide) (R_sheet (by omega)) ?_
            refine zV_getI (x := (nI n)) 2 dX6_sheet_78 rfl fl_RX6_263 (sh_sheet (by omega)) (by decide) rfl hZ69 ?_
            exact zV_ireturn dX6_sheet_81 rfl rfl (⟨_, _, _, by rw [show op_sheet S (nI s) (nI 16) (nI n) = (nI n, st_s S (upN S.2.2.2.2.2.1 s 16) (upN S.2.2.2.2.2.2.1 s n) (upN S.2.2.2.2.2.2.2 s (fun _ => nI 0))) by unfold op_sheet; rw [if_pos h4, if_pos (show okBits (nI 16) from (Or.inr (Or.inr (Or.inl rfl)))), if_neg (Int32.not_lt.mpr h37), if_pos h51, tn_nI (show s < 2 ^ 31 by omega), show tn (nI 16) = 16 from tn_nI (by decide), if_neg (show ¬ nI 16 = nI 0 by decide), tn_nI (show n < 2 ^ 31 by omega)]], rfl, by rw [show op_sheet S (nI s) (nI 16) (nI n) = (nI n, st_s S (upN S.2.2.2.2.2.1 s 16) (upN S.2.2.2.2.2.2.1 s n) (upN S.2.2.2.2.2.2.2 s (fun _ => nI 0))) by unfold op_sheet; rw [if_pos h4, if_pos (show okBits (nI 16) from (Or.inr (Or.inr (Or.inl rfl)))), if_neg (Int32.not_lt.mpr h37), if_pos h51, tn_nI (show s < 2 ^ 31 by omega), show tn (nI 16) = 16 from tn_nI (by decide), if_neg (show ¬ nI 16 = nI 0 by decide), tn_nI (show n < 2 ^ 31 by omega)]]; exact hC.sheet hw hs hB69 hZ69 hX69 (fun i h1 h2 _ => hF69 i h1 h2), fun i hi => hF69 i (by omega) (by omega)⟩)
          · refine zV_aload_n dX6_sheet_54 rfl 0 rfl rfl ?_
            refine zV_ldc (v := (-1000001)) dX6_sheet_55 rfl tw264 ?_
            refine zV_callV (E' := eX6_tell (g_rmv 1)) (av := [.int (-1000001)]) (st := []) (b := 0) dX6_sheet_57 rfl (k_RX6_70 _) rfl ⟨by decide, by decide⟩ ⟨by decide, by decide⟩ (Or.inl rfl) rfl (Nat.le_of_ble_eq_true rfl) rfl rfl rfl (c_tell (w := 0) (by decide) (by decide)) (fun r57 M57 z => ?_)
            obtain ⟨rfl, rfl⟩ := z
            show zV G (eX6_sheet (g_rmv 2)) (0, 0) 60 [(0, .ref 0), (1, .int (nI s)), (2, .int (nI 16)), (3, .int z)] [.int (fdg 0)] (mm (up2 I 67 0 (I 67 0 + nI 1)) J t) _
            exact zV_ireturn dX6_sheet_60 rfl rfl (PC.tell hC hw (by unfold op_sheet; rw [if_pos h4, if_pos (show okBits (nI 16) from (Or.inr (Or.inr (Or.inl rfl)))), if_neg (Int32.not_lt.mpr h37), if_neg h51]) (fun _ _ => rfl))
        · refine zV_aload_n dX6_sheet_40 rfl 0 rfl rfl ?_
          refine zV_ldcw (v := (-1000007)) dX6_sheet_41 rfl tw795 ?_
          refine zV_callV (E' := eX6_tell (g_rmv 1)) (av := [.int (-1000007)]) (st := []) (b := 0) dX6_sheet_44 rfl (k_RX6_70 _) rfl ⟨by decide, by decide⟩ ⟨by decide, by decide⟩ (Or.inl rfl) rfl (Nat.le_of_ble_eq_true rfl) rfl rfl rfl (c_tell (w := 6) (by decide) (by decide)) (fun r44 M44 z => ?_)
          obtain ⟨rfl, rfl⟩ := z
          show zV G (eX6_sheet (g_rmv 2)) (0, 0) 47 [(0, .ref 0), (1, .int (nI s)), (2, .int (nI 16)), (3, .int z)] [.int (fdg 6)] (mm (up2 I 67 6 (I 67 6 + nI 1)) J t) _
          exact zV_ireturn dX6_sheet_47 rfl rfl (PC.tell hC hw (by unfold op_sheet; rw [if_pos h4, if_pos (show okBits (nI 16) from (Or.inr (Or.inr (Or.inl rfl)))), if_pos (Int32.not_le.mp h37)]) (fun _ _ => rfl))
      · show zV G (eX6_sheet (g_rmv 2)) (0, 0) 7 [(0, .ref 0), (1, .int (nI s)), (2, .int (nI 32)), (3, .int z)] [] (mm I J t) _
        refine zV_iload_n dX6_sheet_7 rfl 2 rfl rfl ?_
        refine zN_if_eq (tgt := 36) dX6_sheet_8 rfl rfl (by decide) (fun z => absurd z (by decide)) (fun _ => ?_)
        refine zV_iload_n dX6_sheet_11 rfl 2 rfl rfl ?_
        refine zV_bipush (v := (nI 8)) dX6_sheet_12 rfl rfl ?_
        refine zN_icmp_eq (tgt := 36) dX6_sheet_14 rfl rfl (by decide) (by decide) (fun z => absurd z (by decide)) (fun _ => ?_)
        refine zV_iload_n dX6_sheet_17 rfl 2 rfl rfl ?_
        refine zV_bipush (v := (nI 16)) dX6_sheet_18 rfl rfl ?_
        refine zN_icmp_eq (tgt := 36) dX6_sheet_20 rfl rfl (by decide) (by decide) (fun z => absurd z (by decide)) (fun _ => ?_)
        refine zV_iload_n dX6_sheet_23 rfl 2 rfl rfl ?_
        refine zV_bipush (v := (nI 32)) dX6_sheet_24 rfl rfl ?_
        refine zN_icmp_eq (tgt := 36) dX6_sheet_26 rfl rfl (by decide) (by decide) (fun _ => ?_) (fun z => absurd z (by decide))
        refine zV_iload_n dX6_sheet_36 rfl 3 rfl rfl ?_
        refine zV_if_ge (tgt := 48) dX6_sheet_37 rfl rfl  (fun h37 => ?_) (fun h37 => ?_)
        · refine zV_iload_n dX6_sheet_48 rfl 3 rfl rfl ?_
          refine zV_bipush (v := (nI 40)) dX6_sheet_49 rfl rfl ?_
          refine zV_icmp_le (tgt := 61) dX6_sheet_51 rfl rfl  (fun h51 => ?_) (fun h51 => ?_)
          · obtain ⟨n, hn, rfl⟩ := (inR_iff (by decide)).mp ⟨h37, h51⟩
            refine zV_aload_n dX6_sheet_61 rfl 0 rfl rfl ?_
            refine zV_getr (q' := 43) 7 dX6_sheet_62 rfl fl_RX6_43 rfl (by decide) rfl rfl ?_
            refine zV_iload_n dX6_sheet_65 rfl 1 rfl rfl ?_
            refine zV_aaload (q' := (68 + 2 * s)) s dX6_sheet_66 rfl rfl rfl (by decide) rfl (by omega) (by decide) (R_sheet (by omega)) ?_
            refine zV_iload_n dX6_sheet_67 rfl 2 rfl rfl ?_
            refine zV_iload_n dX6_sheet_68 rfl 3 rfl rfl ?_
            refine zV_callV (E' := eX4_clear (g_rmv 1)) (av := [.int (nI 32), .int (nI n)]) (st := []) (b := (68 + 2 * s)) dX6_sheet_69 rfl (k_RX6_260 _) rfl ⟨by decide, by decide⟩ ⟨by decide, by decide⟩ (Or.inl rfl) rfl (Nat.le_of_ble_eq_true rfl) (sh_sheet (by omega)) rfl rfl (c_clear (s := s) (b := 32) (z := n) hs (by decide) (by omega)) (fun r69 M69 z => ?_)
            obtain ⟨I69, rfl, rfl, hB69, hZ69, hX69, hF69⟩ := z
            show zV G (eX6_sheet (g_rmv 2)) (0, 0) 72 [(0, .ref 0), (1, .int (nI s)), (2, .int (nI 32)), (3, .int (nI n))] [] (mm I69 J t) _
            refine zV_aload_n dX6_sheet_72 rfl 0 rfl rfl ?_
            refine zV_getr (q' := 43) 7 dX6_sheet_73 rfl fl_RX6_43 rfl (by decide) rfl rfl ?_
            refine zV_iload_n dX6_sheet_76 rfl 1 rfl rfl ?_
            refine zV_aaload (q' := (68 + 2 * s)) s dX6_sheet_77 rfl rfl rfl (by decide) rfl (by omega) (by decide) (R_sheet (by omega)) ?_
            refine zV_getI (x := (nI n)) 2 dX6_sheet_78 rfl fl_RX6_263 (sh_sheet (by omega)) (by decide) rfl hZ69 ?_
            exact zV_ireturn dX6_sheet_81 rfl rfl (⟨_, _, _, by rw [show op_sheet S (nI s) (nI 32) (nI n) = (nI n, st_s S (upN S.2.2.2.2.2.1 s 32) (upN S.2.2.2.2.2.2.1 s n) (upN S.2.2.2.2.2.2.2 s (fun _ => nI 0))) by unfold op_sheet; rw [if_pos h4, if_pos (show okBits (nI 32) from (Or.inr (Or.inr (Or.inr rfl)))), if_neg (Int32.not_lt.mpr h37), if_pos h51, tn_nI (show s < 2 ^ 31 by omega), show tn (nI 32) = 32 from tn_nI (by decide), if_neg (show ¬ nI 32 = nI 0 by decide), tn_nI (show n < 2 ^ 31 by omega)]], rfl, by rw [show op_sheet S (nI s) (nI 32) (nI n) = (nI n, st_s S (upN S.2.2.2.2.2.1 s 32) (upN S.2.2.2.2.2.2.1 s n) (upN S.2.2.2.2.2.2.2 s (fun _ => nI 0))) by unfold op_sheet; rw [if_pos h4, if_pos (show okBits (nI 32) from (Or.inr (Or.inr (Or.inr rfl)))), if_neg (Int32.not_lt.mpr h37), if_pos h51, tn_nI (show s < 2 ^ 31 by omega), show tn (nI 32) = 32 from tn_nI (by decide), if_neg (show ¬ nI 32 = nI 0 by decide), tn_nI (show n < 2 ^ 31 by omega)]]; exact hC.sheet hw hs hB69 hZ69 hX69 (fun i h1 h2 _ => hF69 i h1 h2), fun i hi => hF69 i (by omega) (by omega)⟩)
          · refine zV_aload_n dX6_sheet_54 rfl 0 rfl rfl ?_
            refine zV_ldc (v := (-1000001)) dX6_sheet_55 rfl tw264 ?_
            refine zV_callV (E' := eX6_tell (g_rmv 1)) (av := [.int (-1000001)]) (st := []) (b := 0) dX6_sheet_57 rfl (k_RX6_70 _) rfl ⟨by decide, by decide⟩ ⟨by decide, by decide⟩ (Or.inl rfl) rfl (Nat.le_of_ble_eq_true rfl) rfl rfl rfl (c_tell (w := 0) (by decide) (by decide)) (fun r57 M57 z => ?_)
            obtain ⟨rfl, rfl⟩ := z
            show zV G (eX6_sheet (g_rmv 2)) (0, 0) 60 [(0, .ref 0), (1, .int (nI s)), (2, .int (nI 32)), (3, .int z)] [.int (fdg 0)] (mm (up2 I 67 0 (I 67 0 + nI 1)) J t) _
            exact zV_ireturn dX6_sheet_60 rfl rfl (PC.tell hC hw (by unfold op_sheet; rw [if_pos h4, if_pos (show okBits (nI 32) from (Or.inr (Or.inr (Or.inr rfl)))), if_neg (Int32.not_lt.mpr h37), if_neg h51]) (fun _ _ => rfl))
        · refine zV_aload_n dX6_sheet_40 rfl 0 rfl rfl ?_
          refine zV_ldcw (v := (-1000007)) dX6_sheet_41 rfl tw795 ?_
          refine zV_callV (E' := eX6_tell (g_rmv 1)) (av := [.int (-1000007)]) (st := []) (b := 0) dX6_sheet_44 rfl (k_RX6_70 _) rfl ⟨by decide, by decide⟩ ⟨by decide, by decide⟩ (Or.inl rfl) rfl (Nat.le_of_ble_eq_true rfl) rfl rfl rfl (c_tell (w := 6) (by decide) (by decide)) (fun r44 M44 z => ?_)
          obtain ⟨rfl, rfl⟩ := z
          show zV G (eX6_sheet (g_rmv 2)) (0, 0) 47 [(0, .ref 0), (1, .int (nI s)), (2, .int (nI 32)), (3, .int z)] [.int (fdg 6)] (mm (up2 I 67 6 (I 67 6 + nI 1)) J t) _
          exact zV_ireturn dX6_sheet_47 rfl rfl (PC.tell hC hw (by unfold op_sheet; rw [if_pos h4, if_pos (show okBits (nI 32) from (Or.inr (Or.inr (Or.inr rfl)))), if_pos (Int32.not_le.mp h37)]) (fun _ _ => rfl))
    · refine zV_iload_n dX6_sheet_7 rfl 2 rfl rfl ?_
      refine zV_if_eq (tgt := 36) dX6_sheet_8 rfl rfl  (fun z => absurd z (fun z => hok (Or.inl z))) (fun _ => ?_)
      refine zV_iload_n dX6_sheet_11 rfl 2 rfl rfl ?_
      refine zV_bipush (v := (nI 8)) dX6_sheet_12 rfl rfl ?_
      refine zV_icmp_eq (tgt := 36) dX6_sheet_14 rfl rfl  (fun z => absurd z (fun z => hok (Or.inr (Or.inl z)))) (fun _ => ?_)
      refine zV_iload_n dX6_sheet_17 rfl 2 rfl rfl ?_
      refine zV_bipush (v := (nI 16)) dX6_sheet_18 rfl rfl ?_
      refine zV_icmp_eq (tgt := 36) dX6_sheet_20 rfl rfl  (fun z => absurd z (fun z => hok (Or.inr (Or.inr (Or.inl z))))) (fun _ => ?_)
      refine zV_iload_n dX6_sheet_23 rfl 2 rfl rfl ?_
      refine zV_bipush (v := (nI 32)) dX6_sheet_24 rfl rfl ?_
      refine zV_icmp_eq (tgt := 36) dX6_sheet_26 rfl rfl  (fun z => absurd z (fun z => hok (Or.inr (Or.inr (Or.inr z))))) (fun _ => ?_)
      refine zV_aload_n dX6_sheet_29 rfl 0 rfl rfl ?_
      refine zV_ldc (v := (-1000001)) dX6_sheet_30 rfl tw264 ?_
      refine zV_callV (E' := eX6_tell (g_rmv 1)) (av := [.int (-1000001)]) (st := []) (b := 0) dX6_sheet_32 rfl (k_RX6_70 _) rfl ⟨by decide, by decide⟩ ⟨by decide, by decide⟩ (Or.inl rfl) rfl (Nat.le_of_ble_eq_true rfl) rfl rfl rfl (c_tell (w := 0) (by decide) (by decide)) (fun r32 M32 z => ?_)
      obtain ⟨rfl, rfl⟩ := z
      show zV G (eX6_sheet (g_rmv 2)) (0, 0) 35 [(0, .ref 0), (1, .int (nI s)), (2, .int y), (3, .int z)] [.int (fdg 0)] (mm (up2 I 67 0 (I 67 0 + nI 1)) J t) _
      exact zV_ireturn dX6_sheet_35 rfl rfl (PC.tell hC hw (by unfold op_sheet; rw [if_pos h4, if_neg hok]) (fun _ _ => rfl))

set_option maxRecDepth 100000 in
theorem p_write {G : mG} {I : Nat → Nat → Int32} {J : Nat → Nat → Int64} {t : Nat} {B : Nat} {S : aS} (hC : InvC I S) (hw : wfS B S) {x y v : Int32} : zC G yX6_write (eX6_write (g_rmv 3)) [.ref 0, .int x, .int y, .int v] (mm I J t) (fun r M => PC I (op_write S x y v) r M) := by
  refine zC_of (by decide +kernel) rfl (by decide) (Nat.le_of_ble_eq_true rfl) ?_
  have n10 := hw.1.1
  show zV G (eX6_write (g_rmv 3)) (0, 0) 0 [(0, .ref 0), (1, .int x), (2, .int y), (3, .int v)] [] (mm I J t) _
  by_cases h0 : inR x 3
  · obtain ⟨s, hs3, rfl⟩ := (inR_iff (by decide)).mp h0
    have hs : s < 4 := by omega
    have bs := (hw.2.2.2.2.2.1 s hs).1
    have zs40 := (hw.2.2.2.2.2.1 s hs).2
    by_cases h5 : S.2.2.2.2.2.1 s = 0
    · show zV G (eX6_write (g_rmv 3)) (0, 0) 0 [(0, .ref 0), (1, .int (nI s)), (2, .int y), (3, .int v)] [] (mm I J t) _
      refine zV_aload_n dX6_write_0 rfl 0 rfl rfl ?_
      refine zV_iload_n dX6_write_1 rfl 1 rfl rfl ?_
      refine zV_callV (E' := eX6_seekSheet (g_rmv 2)) (av := [.int (nI s)]) (st := []) (b := 0) dX6_write_2 rfl (k_RX6_266 _) rfl ⟨by decide, by decide⟩ ⟨by decide, by decide⟩ (Or.inl rfl) rfl (Nat.le_of_ble_eq_true rfl) rfl rfl rfl (c_seek5 hC hw hs h5) (fun r2 M2 z => ?_)
      obtain ⟨rfl, rfl⟩ := z
      show zV G (eX6_write (g_rmv 3)) (0, 0) 5 [(0, .ref 0), (1, .int (nI s)), (2, .int y), (3, .int v)] [.int (-1000006)] (mm I J t) _
      refine zV_istore (lv' := [(0, .ref 0), (1, .int (nI s)), (2, .int y), (3, .int v), (4, .int (-1000006))]) dX6_write_5 rfl (by decide) rfl ?_
      refine zV_iload dX6_write_7 rfl 4 rfl ?_
      refine zV_if_eq (tgt := 19) dX6_write_9 rfl rfl  (fun z => absurd z (by decide)) (fun _ => ?_)
      refine zV_aload_n dX6_write_12 rfl 0 rfl rfl ?_
      refine zV_iload dX6_write_13 rfl 4 rfl ?_
      refine zV_callV (E' := eX6_tell (g_rmv 1)) (av := [.int (-1000006)]) (st := []) (b := 0) dX6_write_15 rfl (k_RX6_70 _) rfl ⟨by decide, by decide⟩ ⟨by decide, by decide⟩ (Or.inl rfl) rfl (Nat.le_of_ble_eq_true rfl) rfl rfl rfl (c_tell (w := 5) (by decide) (by decide)) (fun r15 M15 z => ?_)
      obtain ⟨rfl, rfl⟩ := z
      show zV G (eX6_write (g_rmv 3)) (0, 0) 18 [(0, .ref 0), (1, .int (nI s)), (2, .int y), (3, .int v), (4, .int (-1000006))] [.int (fdg 5)] (mm (up2 I 67 5 (I 67 5 + nI 1)) J t) _
      exact zV_ireturn dX6_write_18 rfl rfl (PC.tell hC hw (by unfold op_write; rw [if_pos h0, tn_nI (show s < 2 ^ 31 by omega), if_pos h5]) (fun _ _ => rfl))
    · show zV G (eX6_write (g_rmv 3)) (0, 0) 0 [(0, .ref 0), (1, .int (nI s)), (2, .int y), (3, .int v)] [] (mm I J t) _
      refine zV_aload_n dX6_write_0 rfl 0 rfl rfl ?_
      refine zV_iload_n dX6_write_1 rfl 1 rfl rfl ?_
      refine zV_callV (E' := eX6_seekSheet (g_rmv 2)) (av := [.int (nI s)]) (st := []) (b := 0) dX6_write_2 rfl (k_RX6_266 _) rfl ⟨by decide, by decide⟩ ⟨by decide, by decide⟩ (Or.inl rfl) rfl (Nat.le_of_ble_eq_true rfl) rfl rfl rfl (c_seekF hC hw hs h5) (fun r2 M2 z => ?_)
      obtain ⟨rfl, rfl⟩ := z
      show zV G (eX6_write (g_rmv 3)) (0, 0) 5 [(0, .ref 0), (1, .int (nI s)), (2, .int y), (3, .int v)] [.int (nI 0)] (mm I J t) _
      refine zV_istore (lv' := [(0, .ref 0), (1, .int (nI s)), (2, .int y), (3, .int v), (4, .int (nI 0))]) dX6_write_5 rfl (by decide) rfl ?_
      refine zV_iload dX6_write_7 rfl 4 rfl ?_
      refine zN_if_eq (tgt := 19) dX6_write_9 rfl rfl (by decide) (fun _ => ?_) (fun z => absurd z (by decide))
      refine zV_iload_n dX6_write_19 rfl 2 rfl rfl ?_
      refine zV_aload_n dX6_write_20 rfl 0 rfl rfl ?_
      refine zV_getr (q' := 43) 7 dX6_write_21 rfl fl_RX6_43 rfl (by decide) rfl rfl ?_
      refine zV_iload_n dX6_write_24 rfl 1 rfl rfl ?_
      refine zV_aaload (q' := (68 + 2 * s)) s dX6_write_25 rfl rfl rfl (by decide) rfl (by omega) (by decide) (R_sheet (by omega)) ?_
      refine zV_getI (x := (nI (S.2.2.2.2.2.2.1 s))) 2 dX6_write_26 rfl fl_RX6_263 (sh_sheet (by omega)) (by decide) rfl ((hC.2.2.2.2.2.2 s hs).2.1) ?_
      refine zV_iconst (v := (nI 1)) dX6_write_29 rfl rfl ?_
      refine zA_isub (z := ((nI (S.2.2.2.2.2.2.1 s)) - (nI 1))) dX6_write_30 rfl  (rfl) ?_
      refine zV_callS (E' := eX6_isWithin (g_rmv 0)) (av := [.int y, .int ((nI (S.2.2.2.2.2.2.1 s)) - (nI 1))]) (st := []) dX6_write_31 rfl (k_RX6_65 _) rfl ⟨by decide, by decide⟩ ⟨by decide, by decide⟩ (Or.inl rfl) rfl (Nat.le_of_ble_eq_true rfl) (c_isWithin (x := y) (y := ((nI (S.2.2.2.2.2.2.1 s)) - (nI 1)))) (fun r31 M31 z => ?_)
      obtain ⟨rfl, rfl⟩ := z
      show zV G (eX6_write (g_rmv 3)) (0, 0) 34 [(0, .ref 0), (1, .int (nI s)), (2, .int y), (3, .int v), (4, .int (nI 0))] [.int (b2 (0 ≤ y ∧ y ≤ ((nI (S.2.2.2.2.2.2.1 s)) - (nI 1))))] (mm I J t) _
      refine zB_if_ne (tgt := 44) dX6_write_34 rfl rfl  (fun h34 => ?_) (fun h34 => ?_)
      · have hh := (z_hasN (by omega)).mp h34
        obtain ⟨i, hi, rfl⟩ := z_has2 (by omega) hh
        refine zV_aload_n dX6_write_44 rfl 0 rfl rfl ?_
        refine zV_getr (q' := 43) 7 dX6_write_45 rfl fl_RX6_43 rfl (by decide) rfl rfl ?_
        refine zV_iload_n dX6_write_48 rfl 1 rfl rfl ?_
        refine zV_aaload (q' := (68 + 2 * s)) s dX6_write_49 rfl rfl rfl (by decide) rfl (by omega) (by decide) (R_sheet (by omega)) ?_
        refine zV_iload_n dX6_write_50 rfl 2 rfl rfl ?_
        refine zV_iload_n dX6_write_51 rfl 3 rfl rfl ?_
        refine zV_callV (E' := eX4_put (g_rmv 0)) (av := [.int (nI i), .int v]) (st := []) (b := (68 + 2 * s)) dX6_write_52 rfl (k_RX6_269 _) rfl ⟨by decide, by decide⟩ ⟨by decide, by decide⟩ (Or.inl rfl) rfl (Nat.le_of_ble_eq_true rfl) (sh_sheet (by omega)) rfl rfl (c_put (s := s) (b := S.2.2.2.2.2.1 s) (i := i) (v := v) hs (hC.2.2.2.2.2.2 s hs).1 (by omega) (by omega)) (fun r52 M52 z => ?_)
        obtain ⟨rfl, rfl⟩ := z
        show zV G (eX6_write (g_rmv 3)) (0, 0) 55 [(0, .ref 0), (1, .int (nI s)), (2, .int (nI i)), (3, .int v), (4, .int (nI 0))] [] (mm (up2 I (69 + 2 * s) i (cutTo v (S.2.2.2.2.2.1 s))) J t) _
        refine zV_iconst (v := (nI 1)) dX6_write_55 rfl rfl ?_
        exact zV_ireturn dX6_write_56 rfl rfl (⟨_, _, _, by rw [show op_write S (nI s) (nI i) v = (nI 1, st_s S S.2.2.2.2.2.1 S.2.2.2.2.2.2.1 (upN S.2.2.2.2.2.2.2 s (upN (S.2.2.2.2.2.2.2 s) i (cutTo v (S.2.2.2.2.2.1 s))))) by unfold op_write; rw [if_pos h0, tn_nI (show s < 2 ^ 31 by omega), if_neg h5, if_pos hh, tn_nI (show i < 2 ^ 31 by omega)]], rfl, by rw [show op_write S (nI s) (nI i) v = (nI 1, st_s S S.2.2.2.2.2.1 S.2.2.2.2.2.2.1 (upN S.2.2.2.2.2.2.2 s (upN (S.2.2.2.2.2.2.2 s) i (cutTo v (S.2.2.2.2.2.1 s))))) by unfold op_write; rw [if_pos h0, tn_nI (show s < 2 ^ 31 by omega), if_neg h5, if_pos hh, tn_nI (show i < 2 ^ 31 by omega)]]; have h9 := hC.sheet (I' := up2 I (69 + 2 * s) i (cutTo v (S.2.2.2.2.2.1 s))) (b := S.2.2.2.2.2.1 s) (z := S.2.2.2.2.2.2.1 s) (n := upN (S.2.2.2.2.2.2.2 s) i (cutTo v (S.2.2.2.2.2.1 s))) hw hs (by rw [up2_ni (by omega)]; exact (hC.2.2.2.2.2.2 s hs).1) (by rw [up2_ni (by omega)]; exact (hC.2.2.2.2.2.2 s hs).2.1) (fun j hj => by unfold upN; by_cases e : j = i; (· rw [if_pos e, e, up2_same]); (· rw [if_neg e, up2_nk e]; exact (hC.2.2.2.2.2.2 s hs).2.2 j hj)) (fun i h1 h2 _ => by funext k; exact up2_ni h2); rwa [upN_self, upN_self] at h9, fun i hi => by funext k; exact up2_ni (by omega)⟩)
      · refine zV_aload_n dX6_write_37 rfl 0 rfl rfl ?_
        refine zV_ldc (v := (-1000001)) dX6_write_38 rfl tw264 ?_
        refine zV_callV (E' := eX6_tell (g_rmv 1)) (av := [.int (-1000001)]) (st := []) (b := 0) dX6_write_40 rfl (k_RX6_70 _) rfl ⟨by decide, by decide⟩ ⟨by decide, by decide⟩ (Or.inl rfl) rfl (Nat.le_of_ble_eq_true rfl) rfl rfl rfl (c_tell (w := 0) (by decide) (by decide)) (fun r40 M40 z => ?_)
        obtain ⟨rfl, rfl⟩ := z
        show zV G (eX6_write (g_rmv 3)) (0, 0) 43 [(0, .ref 0), (1, .int (nI s)), (2, .int y), (3, .int v), (4, .int (nI 0))] [.int (fdg 0)] (mm (up2 I 67 0 (I 67 0 + nI 1)) J t) _
        exact zV_ireturn dX6_write_43 rfl rfl (PC.tell hC hw (by unfold op_write; rw [if_pos h0, tn_nI (show s < 2 ^ 31 by omega), if_neg h5, if_neg (fun z => h34 ((z_hasN (by omega)).mpr z))]) (fun _ _ => rfl))
  · show zV G (eX6_write (g_rmv 3)) (0, 0) 0 [(0, .ref 0), (1, .int x), (2, .int y), (3, .int v)] [] (mm I J t) _
    refine zV_aload_n dX6_write_0 rfl 0 rfl rfl ?_
    refine zV_iload_n dX6_write_1 rfl 1 rfl rfl ?_
    refine zV_callV (E' := eX6_seekSheet (g_rmv 2)) (av := [.int x]) (st := []) (b := 0) dX6_write_2 rfl (k_RX6_266 _) rfl ⟨by decide, by decide⟩ ⟨by decide, by decide⟩ (Or.inl rfl) rfl (Nat.le_of_ble_eq_true rfl) rfl rfl rfl (c_seek0 h0) (fun r2 M2 z => ?_)
    obtain ⟨rfl, rfl⟩ := z
    show zV G (eX6_write (g_rmv 3)) (0, 0) 5 [(0, .ref 0), (1, .int x), (2, .int y), (3, .int v)] [.int (-1000001)] (mm I J t) _
    refine zV_istore (lv' := [(0, .ref 0), (1, .int x), (2, .int y), (3, .int v), (4, .int (-1000001))]) dX6_write_5 rfl (by decide) rfl ?_
    refine zV_iload dX6_write_7 rfl 4 rfl ?_
    refine zV_if_eq (tgt := 19) dX6_write_9 rfl rfl  (fun z => absurd z (by decide)) (fun _ => ?_)
    refine zV_aload_n dX6_write_12 rfl 0 rfl rfl ?_
    refine zV_iload dX6_write_13 rfl 4 rfl ?_
    refine zV_callV (E' := eX6_tell (g_rmv 1)) (av := [.int (-1000001)]) (st := []) (b := 0) dX6_write_15 rfl (k_RX6_70 _) rfl ⟨by decide, by decide⟩ ⟨by decide, by decide⟩ (Or.inl rfl) rfl (Nat.le_of_ble_eq_true rfl) rfl rfl rfl (c_tell (w := 0) (by decide) (by decide)) (fun r15 M15 z => ?_)
    obtain ⟨rfl, rfl⟩ := z
    show zV G (eX6_write (g_rmv 3)) (0, 0) 18 [(0, .ref 0), (1, .int x), (2, .int y), (3, .int v), (4, .int (-1000001))] [.int (fdg 0)] (mm (up2 I 67 0 (I 67 0 + nI 1)) J t) _
    exact zV_ireturn dX6_write_18 rfl rfl (PC.tell hC hw (by unfold op_write; rw [if_neg h0]) (fun _ _ => rfl))
