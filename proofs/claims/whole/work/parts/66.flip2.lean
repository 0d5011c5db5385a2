/-! FLIPS: want, fewestFlips; flip, strike of the class -/
theorem alln_s {p : Nat → Bool} {z : Nat} : alln p (z + 1) = true ↔ alln p z = true ∧ p z = true := by
  rw [alln_iff, alln_iff]
  constructor
  · intro h
    exact ⟨fun k hk => h k (by omega), h z (by omega)⟩
  · intro h k hk
    by_cases e : k = z
    · rw [e]; exact h.2
    · exact h.1 k (by omega)
abbrev okN (ns : Nat → Int32) (z : Nat) : Prop := alln (fun i => decide (inR (ns i) 1000)) z = true
def wst (I : Nat → Nat → Int32) (J : Nat → Nat → Int64) (z : Nat) (ns : Nat → Int32) : Prop := I 44 2 = b2 (okN ns z) ∧ ∃ W, W ≤ 16 ∧ I 44 3 = nI W ∧ (∀ k, k < 1024 → jb J 57 k = true → k < 64 * W) ∧ ∀ k, k < 1024 → (jb J 57 k = true ↔ ∃ i, i < z ∧ inR (ns i) 1000 ∧ tn (ns i) = k)
theorem one_bit {j : Nat} (hj : j < 64) : (1 : Int64).toBitVec.getLsbD j = decide (j = 0) := by
  show (BitVec.ofNat 64 1).getLsbD j = _
  rw [BitVec.getLsbD_ofNat, decide_eq_true hj, Bool.true_and, show (1 : Nat) = 2 ^ 0 from rfl, Nat.testBit_two_pow]
  by_cases e : j = 0
  · subst e; rfl
  · rw [decide_eq_false e, decide_eq_false (fun z => e z.symm)]
theorem jb_set {J : Nat → Nat → Int64} {v k : Nat} : jb (up2 J 57 (v / 64) (J 57 (v / 64) ||| sh_l 1 (v % 64))) 57 k = (jb J 57 k || decide (k = v)) := by
  unfold jb
  by_cases e : k / 64 = v / 64
  · rw [e, up2_same, Int64.toBitVec_or, BitVec.getLsbD_or, sh_l_bit _ (by omega) (by omega), one_bit (by omega)]
    congr 1
    by_cases e2 : k = v
    · subst e2
      rw [decide_eq_true (Nat.le_refl _), decide_eq_true (Nat.sub_self _), decide_eq_true rfl]
      rfl
    · rw [decide_eq_false e2]
      by_cases e3 : v % 64 ≤ k % 64
      · rw [decide_eq_false (show ¬ k % 64 - v % 64 = 0 by omega), Bool.and_false]
      · rw [decide_eq_false e3, Bool.false_and]
  · rw [up2_nk e, decide_eq_false (fun z => e (by rw [z])), Bool.or_false]
theorem wst.no {I : Nat → Nat → Int32} {J : Nat → Nat → Int64} {z : Nat} {ns : Nat → Int32} (h : wst I J z ns) (hx : ¬ inR (ns z) 1000) : wst (up2 I 44 2 (nI 0)) J (z + 1) ns := by
  obtain ⟨h1, W, hW, h2, h3, h4⟩ := h
  refine ⟨by rw [up2_same]; exact b2_0 (fun q => hx (of_decide_eq_true (alln_s.mp q).2)), W, hW, by rw [up2_nk (by decide)]; exact h2, h3, fun k hk => ?_⟩
  rw [h4 k hk]
  constructor
  · rintro ⟨i, a, b⟩
    exact ⟨i, by omega, b⟩
  · rintro ⟨i, a, b⟩
    refine ⟨i, ?_, b⟩
    by_cases e : i = z
    · rw [e] at b; exact absurd b.1 hx
    · omega
theorem wst.yes {I : Nat → Nat → Int32} {J : Nat → Nat → Int64} {z v W : Nat} {ns : Nat → Int32} (h1 : I 44 2 = b2 (okN ns z)) (hW : W ≤ 16) (h2 : I 44 3 = nI W) (h3 : ∀ k, k < 1024 → jb J 57 k = true → k < 64 * W) (h4 : ∀ k, k < 1024 → (jb J 57 k = true ↔ ∃ i, i < z ∧ inR (ns i) 1000 ∧ tn (ns i) = k)) (hv : v ≤ 1000) (hx : ns z = nI v) : wst (up2 I 44 3 (nI (max W (v / 64 + 1)))) (up2 J 57 (v / 64) (J 57 (v / 64) ||| sh_l 1 (v % 64))) (z + 1) ns := by
  have hin : inR (ns z) 1000 := by rw [hx]; exact (inR_iff (by decide)).mpr ⟨v, hv, rfl⟩
  have htn : tn (ns z) = v := by rw [hx, tn_nI (by omega)]
  refine ⟨by rw [up2_nk (by decide), h1]; exact b2_congr (by rw [okN, okN, alln_s]; exact ⟨fun q => ⟨q, decide_eq_true hin⟩, fun q => q.1⟩), max W (v / 64 + 1), by omega, up2_same _ _ _ _, fun k hk hj => ?_, fun k hk => ?_⟩
  · rw [jb_set, Bool.or_eq_true, decide_eq_true_iff] at hj
    rcases hj with hj | hj
    · have := h3 k hk hj
      omega
    · omega
  · rw [jb_set, Bool.or_eq_true, decide_eq_true_iff, h4 k hk]
    constructor
    · rintro (⟨i, a, b⟩ | e)
      · exact ⟨i, by omega, b⟩
      · exact ⟨z, by omega, hin, by rw [htn, e]⟩
    · rintro ⟨i, a, b, c⟩
      by_cases e : i = z
      · rw [e, htn] at c; exact Or.inr c.symm
      · exact Or.inl ⟨i, by omega, b, c⟩
theorem ok_flo {σ : aL} {J : Nat → Nat → Int64} {s z W : Nat} {ns : Nat → Int32} (hW : W ≤ 16) (h3 : ∀ k, k < 1024 → jb J 57 k = true → k < 64 * W) (h4 : ∀ k, k < 1024 → (jb J 57 k = true ↔ ∃ i, i < z ∧ inR (ns i) 1000 ∧ tn (ns i) = k)) (hok : okN ns z) (t : Nat) : okw (jb J 57) W (rcd (ld_flip σ t) s) = flo σ s z ns t := by
  rw [Bool.eq_iff_iff, okw_iff]
  unfold flo
  rw [alln_iff]
  constructor
  · intro h i hi
    have hin := of_decide_eq_true (alln_iff.mp hok i hi)
    obtain ⟨v, hv, e⟩ := (inR_iff (by decide)).mp hin
    have htn : tn (ns i) = v := by rw [e, tn_nI (by omega)]
    have hj := (h4 v (by omega)).mpr ⟨i, hi, hin, htn⟩
    rw [decide_eq_true hin, Bool.true_and, htn]
    exact h v (h3 v (by omega) hj) hj
  · intro h k hk hj
    obtain ⟨i, a, b, c⟩ := (h4 k (by omega)).mp hj
    have h1 := h i a
    rw [Bool.and_eq_true, c] at h1
    exact h1.2
theorem flp_no {σ : aL} {s z : Nat} {ns : Nat → Int32} (h : ¬ okN ns z) : ld_flp σ s z ns = none := by
  cases e : ld_flp σ s z ns with
  | none => rfl
  | some b =>
    have h1 := (fo_bst _ _ e).2
    refine absurd (alln_iff.mpr (fun i hi => ?_)) h
    have h2 := alln_iff.mp h1 i hi
    rw [Bool.and_eq_true] at h2
    exact h2.1
set_option maxRecDepth 100000 in
theorem c_wantNothing {G : mG} {I : Nat → Nat → Int32} {J : Nat → Nat → Int64} {t : Nat}  : zC G yX2_wantNothing (eX2_wantNothing (g_rmv 1)) [.ref 44] (mm I J t) (fun r M => ∃ J', r = none ∧ M = mm (up2 (up2 I 44 2 (nI 1)) 44 3 (nI 1)) J' t ∧ (∀ k, k < 1024 → jb J' 57 k = false) ∧ ∀ i, i ≠ 57 → J' i = J i) := by
  refine zC_of (by decide +kernel) rfl (by decide) (Nat.le_of_ble_eq_true rfl) ?_
  show zV G (eX2_wantNothing (g_rmv 1)) (0, 0) 0 [(0, .ref 44)] [] (mm I J t) _
  refine zV_aload_n dX2_wantNothing_0 rfl 0 rfl rfl ?_
  refine zV_getr (q' := 57) 1 dX2_wantNothing_1 rfl fl_RX2_16 rfl (by decide) rfl rfl ?_
  refine zV_lconst (v := 0) dX2_wantNothing_4 rfl rfl ?_
  refine zV_callS (E' := eJ7_fill_d0a16 (g_rmv 0)) (av := [.ref 57, .long 0]) (st := []) dX2_wantNothing_5 rfl (k_RX2_83 _) rfl ⟨by decide, by decide⟩ ⟨by decide, by decide⟩ (Or.inl rfl) rfl (Nat.le_of_ble_eq_true rfl) (c_fillJ (q := 57) (x := 0) rfl) (fun r5 M5 z => ?_)
  obtain ⟨J5, rfl, rfl, hX5, hF5⟩ := z
  show zV G (eX2_wantNothing (g_rmv 1)) (0, 0) 8 [(0, .ref 44)] [] (mm I J5 t) _
  refine zV_aload_n dX2_wantNothing_8 rfl 0 rfl rfl ?_
  refine zV_iconst (v := (nI 1)) dX2_wantNothing_9 rfl rfl ?_
  refine zV_puti 2 dX2_wantNothing_10 rfl fl_RX2_20 rfl (by decide) rfl rfl rfl ?_
  refine zV_aload_n dX2_wantNothing_13 rfl 0 rfl rfl ?_
  refine zV_iconst (v := (nI 1)) dX2_wantNothing_14 rfl rfl ?_
  refine zV_puti 3 dX2_wantNothing_15 rfl fl_RX2_24 rfl (by decide) rfl rfl rfl ?_
  exact zV_return dX2_wantNothing_18 rfl (⟨J5, rfl, rfl, fun k hk => by unfold jb; rw [hX5 (k / 64) (by omega), z64_0], hF5⟩)

theorem wst.init {I : Nat → Nat → Int32} {J : Nat → Nat → Int64} {ns : Nat → Int32} (h : ∀ k, k < 1024 → jb J 57 k = false) : wst (up2 (up2 I 44 2 (nI 1)) 44 3 (nI 1)) J 0 ns := ⟨by rw [up2_nk (by decide), up2_same]; exact b2_1 (alln_iff.mpr (fun k hk => absurd hk (Nat.not_lt_zero _))), 1, by decide, up2_same _ _ _ _, fun k hk hj => (by rw [h k hk] at hj; cases hj), fun k hk => ⟨fun hj => (by rw [h k hk] at hj; cases hj), fun ⟨i, a, _⟩ => absurd a (Nat.not_lt_zero _)⟩⟩
set_option maxRecDepth 100000 in
theorem c_want0 {G : mG} {I : Nat → Nat → Int32} {J : Nat → Nat → Int64} {t : Nat} {x : Int32} (h : ¬ inR x 1000) : zC G yX2_want (eX2_want (g_rmv 1)) [.ref 44, .int x] (mm I J t) (fun r M => r = none ∧ M = mm (up2 I 44 2 (nI 0)) J t) := by
  refine zC_of (by decide +kernel) rfl (by decide) (Nat.le_of_ble_eq_true rfl) ?_
  show zV G (eX2_want (g_rmv 1)) (0, 0) 0 [(0, .ref 44), (1, .int x)] [] (mm I J t) _
  refine zV_iload_n dX2_want_0 rfl 1 rfl rfl ?_
  refine zV_sipush (v := (nI 1000)) dX2_want_1 rfl rfl ?_
  refine zV_callSN (E' := eX6_isWithin (g_rmv 0)) (av := [.int x, .int (nI 1000)]) (st := []) dX2_want_4 rfl (k_RX2_70 _) rfl ⟨by decide, by decide⟩ ⟨by decide, by decide⟩ (Or.inl rfl) rfl (Nat.le_of_ble_eq_true rfl) (c_isWithin (x := x) (y := (nI 1000))) (fun r4 M4 z => ?_)
  obtain ⟨rfl, rfl⟩ := z
  show zV G (eX2_want (g_rmv 1)) (0, 0) 7 [(0, .ref 44), (1, .int x)] [.int (b2 (0 ≤ x ∧ x ≤ (nI 1000)))] (mm I J t) _
  refine zB_if_ne (tgt := 16) dX2_want_7 rfl rfl  (fun z => absurd z h) (fun _ => ?_)
  refine zV_aload_n dX2_want_10 rfl 0 rfl rfl ?_
  refine zV_iconst (v := (nI 0)) dX2_want_11 rfl rfl ?_
  refine zV_puti 2 dX2_want_12 rfl fl_RX2_20 rfl (by decide) rfl rfl rfl ?_
  exact zV_return dX2_want_15 rfl (⟨rfl, rfl⟩)

set_option maxRecDepth 100000 in
theorem c_want1 {G : mG} {I : Nat → Nat → Int32} {J : Nat → Nat → Int64} {t : Nat} {v W : Nat} (hv : v ≤ 1000) (hW : W ≤ 16) (hI : I 44 3 = nI W) : zC G yX2_want (eX2_want (g_rmv 1)) [.ref 44, .int (nI v)] (mm I J t) (fun r M => r = none ∧ M = mm (up2 I 44 3 (nI (max W (v / 64 + 1)))) (up2 J 57 (v / 64) (J 57 (v / 64) ||| sh_l 1 (v % 64))) t) := by
  refine zC_of (by decide +kernel) rfl (by decide) (Nat.le_of_ble_eq_true rfl) ?_
  show zV G (eX2_want (g_rmv 1)) (0, 0) 0 [(0, .ref 44), (1, .int (nI v))] [] (mm I J t) _
  refine zV_iload_n dX2_want_0 rfl 1 rfl rfl ?_
  refine zV_sipush (v := (nI 1000)) dX2_want_1 rfl rfl ?_
  refine zV_callSN (E' := eX6_isWithin (g_rmv 0)) (av := [.int (nI v), .int (nI 1000)]) (st := []) dX2_want_4 rfl (k_RX2_70 _) rfl ⟨by decide, by decide⟩ ⟨by decide, by decide⟩ (Or.inl rfl) rfl (Nat.le_of_ble_eq_true rfl) (c_isWithin (x := (nI v)) (y := (nI 1000))) (fun r4 M4 z => ?_)
  obtain ⟨rfl, rfl⟩ := z
  show zV G (eX2_want (g_rmv 1)) (0, 0) 7 [(0, .ref 44), (1, .int (nI v))] [.int (b2 (0 ≤ (nI v) ∧ (nI v) ≤ (nI 1000)))] (mm I J t) _
  refine zB_if_ne (tgt := 16) dX2_want_7 rfl rfl  (fun _ => ?_) (fun z => absurd z (fun z => z ⟨nI_pos' (by omega), nI_le (by omega) (by decide)⟩))
  refine zV_aload_n dX2_want_16 rfl 0 rfl rfl ?_
  refine zV_getr (q' := 57) 1 dX2_want_17 rfl fl_RX2_16 rfl (by decide) rfl rfl ?_
  refine zV_iload_n dX2_want_20 rfl 1 rfl rfl ?_
  refine zV_bipush (v := (nI 6)) dX2_want_21 rfl rfl ?_
  refine zA_ishr (z := (nI (v / 64))) dX2_want_23 rfl  (pk_shrN (by omega) (nI 6 &&& 31) 6 (s_l 6 (by omega))) ?_
  refine zV_dup2 dX2_want_24 rfl rfl rfl ?_
  refine zV_laload (v / 64) dX2_want_25 rfl rfl rfl (by omega) (by decide) ?_
  refine zV_lconst (v := 1) dX2_want_26 rfl rfl ?_
  refine zV_iload_n dX2_want_27 rfl 1 rfl rfl ?_
  refine zV_bipush (v := (nI 63)) dX2_want_28 rfl rfl ?_
  refine zA_iand (z := (nI (v % 64))) dX2_want_30 rfl  (fa_mask v 6) ?_
  refine zA_lshl (z := (sh_l 1 (v % 64))) dX2_want_31 rfl  (rfl) ?_
  refine zA_lor (z := ((J 57 (v / 64)) ||| (sh_l 1 (v % 64)))) dX2_want_32 rfl  (rfl) ?_
  refine zV_lastore (v / 64) dX2_want_33 rfl rfl rfl (by omega) (by decide) ?_
  refine zV_aload_n dX2_want_34 rfl 0 rfl rfl ?_
  refine zV_aload_n dX2_want_35 rfl 0 rfl rfl ?_
  refine zV_getI (x := (nI W)) 3 dX2_want_36 rfl fl_RX2_24 rfl (by decide) rfl hI ?_
  refine zV_iload_n dX2_want_39 rfl 1 rfl rfl ?_
  refine zV_bipush (v := (nI 6)) dX2_want_40 rfl rfl ?_
  refine zA_ishr (z := (nI (v / 64))) dX2_want_42 rfl  (pk_shrN (by omega) (nI 6 &&& 31) 6 (s_l 6 (by omega))) ?_
  refine zV_iconst (v := (nI 1)) dX2_want_43 rfl rfl ?_
  refine zA_iadd (z := (nI ((v / 64) + 1))) dX2_want_44 rfl  (nI_add _ _) ?_
  refine zV_callS (E' := eJ9_max_7cf53 (g_rmv 0)) (av := [.int (nI W), .int (nI ((v / 64) + 1))]) (st := [.ref 44]) dX2_want_45 rfl (k_RX2_89 _) rfl ⟨by decide, by decide⟩ ⟨by decide, by decide⟩ (Or.inl rfl) rfl (Nat.le_of_ble_eq_true rfl) (c_maxn (a := W) (b := v / 64 + 1) (by omega) (by omega)) (fun r45 M45 z => ?_)
  obtain ⟨rfl, rfl⟩ := z
  show zV G (eX2_want (g_rmv 1)) (0, 0) 48 [(0, .ref 44), (1, .int (nI v))] [.int (nI (max W (v / 64 + 1))), .ref 44] (mm I (up2 J 57 (v / 64) ((J 57 (v / 64)) ||| (sh_l 1 (v % 64)))) t) _
  refine zV_puti 3 dX2_want_48 rfl fl_RX2_24 rfl (by decide) rfl rfl rfl ?_
  exact zV_return dX2_want_51 rfl (⟨rfl, rfl⟩)

theorem c_want {G : mG} {I : Nat → Nat → Int32} {J : Nat → Nat → Int64} {t z : Nat} {ns : Nat → Int32} {x : Int32} (h : wst I J z ns) (hx : x = ns z) : zC G yX2_want (eX2_want (g_rmv 1)) [.ref 44, .int x] (mm I J t) (fun r M => ∃ (I' : Nat → Nat → Int32) (J' : Nat → Nat → Int64), r = none ∧ M = mm I' J' t ∧ wst I' J' (z + 1) ns ∧ ∀ i, i ≠ 44 → I' i = I i) := by
  subst hx
  by_cases hin : inR (ns z) 1000
  · obtain ⟨v, hv, e⟩ := (inR_iff (by decide)).mp hin
    obtain ⟨h1, W, hW, h2, h3, h4⟩ := h
    rw [e]
    exact zC_mono (fun r M q => ⟨_, _, q.1, q.2, wst.yes h1 hW h2 h3 h4 hv e, fun i hi => by funext k; exact up2_ni hi⟩) (c_want1 hv hW h2)
  · exact zC_mono (fun r M q => ⟨_, _, q.1, q.2, h.no hin, fun i hi => by funext k; exact up2_ni hi⟩) (c_want0 hin)
set_option maxRecDepth 100000 in
theorem c_fewestF {G : mG} {I : Nat → Nat → Int32} {J : Nat → Nat → Int64} {t : Nat} {B : Nat} {σ : aL} (hA : absL I 1 σ) (hW : wfL B σ) {s z : Nat} {ns : Nat → Int32} (hs : s < 2 ^ σ.1) (hq : wst I J z ns) : zC G yX2_fewestFlips (eX2_fewestFlips (g_rmv 12)) [.ref 44, .ref 1, .int (nI s)] (mm I J t) (fun r M => ∃ (I' : Nat → Nat → Int32) (J' : Nat → Nat → Int64), r = some (.int (ans (ld_flp σ s z ns))) ∧ M = mm I' J' t ∧ ∀ i, i ≠ 44 → i ≠ 58 → i ≠ 59 → i ≠ 60 → I' i = I i) := by
  refine zC_of (by decide +kernel) rfl (by decide) (Nat.le_of_ble_eq_true rfl) ?_
  have n10 := hW.1
  have p10 := z_p10 n10
  obtain ⟨hps, W, hWd, hwd, hlt, hif⟩ := hq
  show zV G (eX2_fewestFlips (g_rmv 12)) (0, 0) 0 [(0, .ref 44), (1, .ref 1), (2, .int (nI s))] [] (mm I J t) _
  refine zV_aload_n dX2_fewestFlips_0 rfl 0 rfl rfl ?_
  refine zV_getI (x := (b2 (okN ns z))) 2 dX2_fewestFlips_1 rfl fl_RX2_20 rfl (by decide) rfl hps ?_
  refine zB_if_ne (tgt := 9) dX2_fewestFlips_4 rfl rfl  (fun h4 => ?_) (fun h4 => ?_)
  · refine zV_aload_n dX2_fewestFlips_9 rfl 0 rfl rfl ?_
    refine zV_iconst (v := (nI 0)) dX2_fewestFlips_10 rfl rfl ?_
    refine zV_puti 7 dX2_fewestFlips_11 rfl fl_RX2_38 rfl (by decide) rfl rfl rfl ?_
    refine zV_iconst (v := (nI 0)) dX2_fewestFlips_14 rfl rfl ?_
    refine zV_istore_n (lv' := [(0, .ref 44), (1, .ref 1), (2, .int (nI s)), (3, .int (nI 0))]) dX2_fewestFlips_15 rfl rfl (by decide) rfl ?_
    refine z_for (fun c => ∀ (I1 : Nat → Nat → Int32), (I1 44 7 = nI (bct s c) ∧ (∀ i, i < c → s.testBit i = true → I1 58 (bct s i) = nI i ∧ I1 59 (bct s i) = nI (k_now (σ.2.1 i)) ∧ I1 60 (bct s i) = nI (k_oth (σ.2.1 i))) ∧ (∀ k, k ≠ 7 → I1 44 k = I 44 k) ∧ ∀ i, i ≠ 44 → i ≠ 58 → i ≠ 59 → i ≠ 60 → I1 i = I i) → zV G (eX2_fewestFlips (g_rmv 12)) (0, 0) 16 [(0, .ref 44), (1, .ref 1), (2, .int (nI s)), (3, .int (nI c))] [] (mm I1 J t) _) σ.1 ?_ ?_ 0 (Nat.zero_le _) _ ⟨up2_same _ _ _ _, fun i hi => absurd hi (Nat.not_lt_zero _), fun k hk => up2_nk hk, fun i a1 _ _ _ => by funext k; exact up2_ni a1⟩
    · intro I1 h1
      have bcl : bct s σ.1 ≤ σ.1 := fb_ct_le _ σ.1
      have harr : ∀ i, i < bct s σ.1 → I1 58 i = nI (kth s i) ∧ I1 59 i = nI (k_now (σ.2.1 (kth s i))) ∧ I1 60 i = nI (k_oth (σ.2.1 (kth s i))) ∧ kth s i < 10 ∧ k_now (σ.2.1 (kth s i)) ≤ 100 ∧ k_oth (σ.2.1 (kth s i)) ≤ 100 := fun i hi => by
        obtain ⟨q1, q2, q3⟩ := kth_spec n10 hi
        have q4 := h1.2.1 (kth s i) q2 q1
        rw [q3] at q4
        exact ⟨q4.1, q4.2.1, q4.2.2, by omega, k_wIf_le (hW.2.1 _ q2) _ _ _ _, k_wIf_le (hW.2.1 _ q2) _ _ _ _⟩
      refine zV_iload_n dX2_fewestFlips_16 rfl 3 rfl rfl ?_
      refine zV_aload_n dX2_fewestFlips_17 rfl 1 rfl rfl ?_
      refine zV_getI (x := (nI σ.1)) 2 dX2_fewestFlips_18 rfl fl_RX2_47 (sh_land (Or.inl rfl)) (by decide) rfl (by rw [h1.2.2.2 1 (by decide) (by decide) (by decide) (by decide)]; exact hA.1) ?_
      refine zN_icmp_ge (tgt := 94) dX2_fewestFlips_21 rfl rfl (by omega) (by omega) (fun _ => ?_) (fun z => absurd z (by omega))
      refine zV_aload_n dX2_fewestFlips_94 rfl 0 rfl rfl ?_
      refine zV_callV (E' := eX2_startRow (g_rmv 1)) (av := []) (st := []) (b := 44) dX2_fewestFlips_95 rfl (k_RX2_44 _) rfl ⟨by decide, by decide⟩ ⟨by decide, by decide⟩ (Or.inl rfl) rfl (Nat.le_of_ble_eq_true rfl) rfl rfl rfl c_startRow (fun r95 M95 z => ?_)
      obtain ⟨J95, rfl, rfl, hX95, hF95⟩ := z
      show zV G (eX2_fewestFlips (g_rmv 12)) (0, 0) 98 [(0, .ref 44), (1, .ref 1), (2, .int (nI s)), (3, .int (nI σ.1))] [] (mm I1 J95 t) _
      refine zV_aload_n dX2_fewestFlips_98 rfl 0 rfl rfl ?_
      refine zV_sipush (v := (nI 11264)) dX2_fewestFlips_99 rfl rfl ?_
      refine zV_puti 8 dX2_fewestFlips_102 rfl fl_RX2_41 rfl (by decide) rfl rfl rfl ?_
      refine zV_aload_n dX2_fewestFlips_105 rfl 0 rfl rfl ?_
      refine zV_iconst (v := (nI 0)) dX2_fewestFlips_106 rfl rfl ?_
      refine zV_iconst (v := (nI 0)) dX2_fewestFlips_107 rfl rfl ?_
      refine zV_callS (E' := eX2_tryFlips (g_rmv (bct s σ.1 + 1))) (av := [.ref 44, .int (nI 0), .int (nI 0)]) (st := []) dX2_fewestFlips_108 rfl (k_RX2_98 _) rfl ⟨by show (bct s σ.1 + 1) + 1 ≤ 12; omega, by show 8 + (3 + 11) + 60 * ((bct s σ.1 + 1)) ≤ 60 * (12); omega⟩ ⟨Nat.le_refl 0, Nat.le_refl 0⟩ (Or.inl rfl) rfl (Nat.le_of_ble_eq_true rfl) (c_try (a := kth s) (nw := fun c => k_now (σ.2.1 c)) (ot := fun c => k_oth (σ.2.1 c)) (n := bct s σ.1) (W := W) (Wt := jb J 57) (bct s σ.1) (up2 I1 44 8 (nI 11264)) J95 t 0 0 11264 (fun k => decide (k = 0)) ⟨Nat.zero_add _, by omega, by rw [up2_nk (by decide)]; exact h1.1, up2_same _ _ _ _, Nat.le_refl _, by rw [up2_nk (by decide), h1.2.2.1 3 (by decide)]; exact hwd, hWd, fun i hi => by rw [up2_ni (by decide), up2_ni (by decide), up2_ni (by decide)]; exact harr i hi, Nat.zero_le _, fun k hk => jb_start hX95 (by omega), fun k hk => jb_row (hF95 57 (by decide))⟩) (fun r108 M108 z => ?_)
      obtain ⟨I108, J108, rfl, rfl, hb108, hk108, hi108, hj108⟩ := z
      show zV G (eX2_fewestFlips (g_rmv 12)) (0, 0) 111 [(0, .ref 44), (1, .ref 1), (2, .int (nI s)), (3, .int (nI σ.1))] [] (mm I108 J108 t) _
      have hm0 := fl_end (z := z) (ns := ns) hW hs (ok_flo hWd hlt hif h4)
      rcases hm0 with ⟨hm, he⟩ | ⟨bb, hbl, he, hm⟩
      · skip
        refine zV_aload_n dX2_fewestFlips_111 rfl 0 rfl rfl ?_
        refine zV_getI (x := (nI 11264)) 8 dX2_fewestFlips_112 rfl fl_RX2_41 rfl (by decide) rfl (by rw [hb108, hm]; rfl) ?_
        refine zV_sipush (v := (nI 11264)) dX2_fewestFlips_115 rfl rfl ?_
        refine zN_icmp_ne (tgt := 125) dX2_fewestFlips_118 rfl rfl (by decide) (by decide) (fun z => absurd z (by decide)) (fun _ => ?_)
        refine zV_iconst (v := (-1)) dX2_fewestFlips_121 rfl rfl ?_
        refine zV_goto (tgt := 133) dX2_fewestFlips_122 rfl ?_
        exact zV_ireturn dX2_fewestFlips_133 rfl rfl (⟨I108, J108, by rw [he]; rfl, rfl, fun i a1 a2 a3 a4 => by rw [hi108 i a1, ← h1.2.2.2 i a1 a2 a3 a4]; funext k; exact up2_ni a1⟩)
      · have hmx := flr_max hbl
        refine zV_aload_n dX2_fewestFlips_111 rfl 0 rfl rfl ?_
        refine zV_getI (x := (nI (flr bb))) 8 dX2_fewestFlips_112 rfl fl_RX2_41 rfl (by decide) rfl (by rw [hb108, hm]; exact congrArg nI (by omega)) ?_
        refine zV_sipush (v := (nI 11264)) dX2_fewestFlips_115 rfl rfl ?_
        refine zN_icmp_ne (tgt := 125) dX2_fewestFlips_118 rfl rfl (by omega) (by omega) (fun _ => ?_) (fun z => absurd z (by omega))
        refine zV_aload_n dX2_fewestFlips_125 rfl 0 rfl rfl ?_
        refine zV_getI (x := (nI (flr bb))) 8 dX2_fewestFlips_126 rfl fl_RX2_41 rfl (by decide) rfl (by rw [hb108, hm]; exact congrArg nI (by omega)) ?_
        refine zV_sipush (v := (nI 1024)) dX2_fewestFlips_129 rfl rfl ?_
        refine zA_irem (z := (nI ((flr bb) % 1024))) dX2_fewestFlips_132 rfl (by decide) (pk_rem (by omega) (by omega) (by omega)) ?_
        exact zV_ireturn dX2_fewestFlips_133 rfl rfl (⟨I108, J108, by rw [he, flr_mod hbl]; rfl, rfl, fun i a1 a2 a3 a4 => by rw [hi108 i a1, ← h1.2.2.2 i a1 a2 a3 a4]; funext k; exact up2_ni a1⟩)
    · intro c hc ih
      intro I1 h1
      have bcl : bct s c ≤ c := fb_ct_le _ c
      have wb1 : k_now (σ.2.1 c) ≤ 100 := k_wIf_le (hW.2.1 c hc) _ _ _ _
      have wb2 : k_oth (σ.2.1 c) ≤ 100 := k_wIf_le (hW.2.1 c hc) _ _ _ _
      refine zV_iload_n dX2_fewestFlips_16 rfl 3 rfl rfl ?_
      refine zV_aload_n dX2_fewestFlips_17 rfl 1 rfl rfl ?_
      refine zV_getI (x := (nI σ.1)) 2 dX2_fewestFlips_18 rfl fl_RX2_47 (sh_land (Or.inl rfl)) (by decide) rfl (by rw [h1.2.2.2 1 (by decide) (by decide) (by decide) (by decide)]; exact hA.1) ?_
      refine zN_icmp_ge (tgt := 94) dX2_fewestFlips_21 rfl rfl (by omega) (by omega) (fun z => absurd z (by omega)) (fun _ => ?_)
      refine zV_iload_n dX2_fewestFlips_24 rfl 2 rfl rfl ?_
      refine zV_iload_n dX2_fewestFlips_25 rfl 3 rfl rfl ?_
      refine zV_callSN (E' := eX6_holds (g_rmv 0)) (av := [.int (nI s), .int (nI c)]) (st := []) dX2_fewestFlips_26 rfl (k_RX2_52 _) rfl ⟨by decide, by decide⟩ ⟨by decide, by decide⟩ (Or.inl rfl) rfl (Nat.le_of_ble_eq_true rfl) (c_holds (s := s) (c := c) (by omega) (by omega)) (fun r26 M26 z => ?_)
      obtain ⟨rfl, rfl⟩ := z
      show zV G (eX2_fewestFlips (g_rmv 12)) (0, 0) 29 [(0, .ref 44), (1, .ref 1), (2, .int (nI s)), (3, .int (nI c))] [.int (b2 ((s).testBit c = true))] (mm I1 J t) _
      refine zB_if_eq (tgt := 88) dX2_fewestFlips_29 rfl rfl  (fun h29 => ?_) (fun h29 => ?_)
      · refine zV_iinc (y := (nI (c + 1))) (lv' := [(0, .ref 44), (1, .ref 1), (2, .int (nI s)), (3, .int (nI (c + 1)))]) dX2_fewestFlips_88 rfl 3 rfl (nI_1 _) (by decide) rfl ?_
        refine zV_goto (tgt := 16) dX2_fewestFlips_91 rfl ?_
        exact ih I1 ⟨by rw [bct_f h29]; exact h1.1, fun i hi hb2 => h1.2.1 i (by (by_cases e : i = c); (· subst e; exact absurd hb2 h29); (· omega)) hb2, h1.2.2⟩
      · refine zV_aload_n dX2_fewestFlips_32 rfl 0 rfl rfl ?_
        refine zV_getr (q' := 58) 4 dX2_fewestFlips_33 rfl fl_RX2_28 rfl (by decide) rfl rfl ?_
        refine zV_aload_n dX2_fewestFlips_36 rfl 0 rfl rfl ?_
        refine zV_getI (x := (nI (bct s c))) 7 dX2_fewestFlips_37 rfl fl_RX2_38 rfl (by decide) rfl h1.1 ?_
        refine zV_iload_n dX2_fewestFlips_40 rfl 3 rfl rfl ?_
        refine zV_iastore (bct s c) dX2_fewestFlips_41 rfl rfl rfl (by omega) (by decide)  ?_
        refine zV_aload_n dX2_fewestFlips_42 rfl 0 rfl rfl ?_
        refine zV_getr (q' := 59) 5 dX2_fewestFlips_43 rfl fl_RX2_32 rfl (by decide) rfl rfl ?_
        refine zV_aload_n dX2_fewestFlips_46 rfl 0 rfl rfl ?_
        refine zV_getI (x := (nI (bct s c))) 7 dX2_fewestFlips_47 rfl fl_RX2_38 rfl (by decide) rfl (by rw [up2_ni (by decide)]; exact h1.1) ?_
        refine zV_aload_n dX2_fewestFlips_50 rfl 1 rfl rfl ?_
        refine zV_getrX (q' := (1 + 1)) 0 dX2_fewestFlips_51 rfl fl_RX2_56 (sh_land (Or.inl rfl)) (by decide) rfl (R_coins (Or.inl rfl)) ?_
        refine zV_iload_n dX2_fewestFlips_54 rfl 3 rfl rfl ?_
        refine zV_aaload (q' := (1 + 3 + c)) c dX2_fewestFlips_55 rfl (sh_coins (Or.inl rfl)) rfl (by decide) rfl (by omega) (by decide) (R_coin (Or.inl rfl) (by omega)) ?_
        refine zV_callV (E' := eX0_worthNow (g_rmv 2)) (av := []) (st := [.int (nI (bct s c)), .ref 59]) (b := (1 + 3 + c)) dX2_fewestFlips_56 rfl (k_RX2_60 _) rfl ⟨by decide, by decide⟩ ⟨by decide, by decide⟩ (Or.inl rfl) rfl (Nat.le_of_ble_eq_true rfl) (sh_coin (Or.inl rfl) (by omega)) rfl rfl (c_worthNow (sh_coin (Or.inl rfl) (by omega)) (fun f hf => by rw [up2_ni (by omega), h1.2.2.2 (1 + 3 + c) (by omega) (by omega) (by omega) (by omega)]; exact hA.2.1 c hc f hf) (hW.2.1 c hc)) (fun r56 M56 z => ?_)
        obtain ⟨rfl, rfl⟩ := z
        show zV G (eX2_fewestFlips (g_rmv 12)) (0, 0) 59 [(0, .ref 44), (1, .ref 1), (2, .int (nI s)), (3, .int (nI c))] [.int (nI (k_now (σ.2.1 c))), .int (nI (bct s c)), .ref 59] (mm (up2 I1 58 (bct s c) (nI c)) J t) _
        refine zV_iastore (bct s c) dX2_fewestFlips_59 rfl rfl rfl (by omega) (by decide)  ?_
        refine zV_aload_n dX2_fewestFlips_60 rfl 0 rfl rfl ?_
        refine zV_getr (q' := 60) 6 dX2_fewestFlips_61 rfl fl_RX2_35 rfl (by decide) rfl rfl ?_
        refine zV_aload_n dX2_fewestFlips_64 rfl 0 rfl rfl ?_
        refine zV_getI (x := (nI (bct s c))) 7 dX2_fewestFlips_65 rfl fl_RX2_38 rfl (by decide) rfl (by rw [up2_ni (by decide), up2_ni (by decide)]; exact h1.1) ?_
        refine zV_aload_n dX2_fewestFlips_68 rfl 1 rfl rfl ?_
        refine zV_getrX (q' := (1 + 1)) 0 dX2_fewestFlips_69 rfl fl_RX2_56 (sh_land (Or.inl rfl)) (by decide) rfl (R_coins (Or.inl rfl)) ?_
        refine zV_iload_n dX2_fewestFlips_72 rfl 3 rfl rfl ?_
        refine zV_aaload (q' := (1 + 3 + c)) c dX2_fewestFlips_73 rfl (sh_coins (Or.inl rfl)) rfl (by decide) rfl (by omega) (by decide) (R_coin (Or.inl rfl) (by omega)) ?_
        refine zV_callV (E' := eX0_worthOtherWay (g_rmv 2)) (av := []) (st := [.int (nI (bct s c)), .ref 60]) (b := (1 + 3 + c)) dX2_fewestFlips_74 rfl (k_RX2_95 _) rfl ⟨by decide, by decide⟩ ⟨by decide, by decide⟩ (Or.inl rfl) rfl (Nat.le_of_ble_eq_true rfl) (sh_coin (Or.inl rfl) (by omega)) rfl rfl (c_worthOther (sh_coin (Or.inl rfl) (by omega)) (fun f hf => by rw [up2_ni (by omega), up2_ni (by omega), h1.2.2.2 (1 + 3 + c) (by omega) (by omega) (by omega) (by omega)]; exact hA.2.1 c hc f hf) (hW.2.1 c hc)) (fun r74 M74 z => ?_)
        obtain ⟨rfl, rfl⟩ := z
        show zV G (eX2_fewestFlips (g_rmv 12)) (0, 0) 77 [(0, .ref 44), (1, .ref 1), (2, .int (nI s)), (3, .int (nI c))] [.int (nI (k_oth (σ.2.1 c))), .int (nI (bct s c)), .ref 60] (mm (up2 (up2 I1 58 (bct s c) (nI c)) 59 (bct s c) (nI (k_now (σ.2.1 c)))) J t) _
        refine zV_iastore (bct s c) dX2_fewestFlips_77 rfl rfl rfl (by omega) (by decide)  ?_
        refine zV_aload_n dX2_fewestFlips_78 rfl 0 rfl rfl ?_
        refine zV_dup dX2_fewestFlips_79 rfl rfl ?_
        refine zV_getI (x := (nI (bct s c))) 7 dX2_fewestFlips_80 rfl fl_RX2_38 rfl (by decide) rfl (by rw [up2_ni (by decide), up2_ni (by decide), up2_ni (by decide)]; exact h1.1) ?_
        refine zV_iconst (v := (nI 1)) dX2_fewestFlips_83 rfl rfl ?_
        refine zA_iadd (z := (nI ((bct s c) + 1))) dX2_fewestFlips_84 rfl  (nI_add _ _) ?_
        refine zV_puti 7 dX2_fewestFlips_85 rfl fl_RX2_38 rfl (by decide) rfl rfl rfl ?_
        refine zV_iinc (y := (nI (c + 1))) (lv' := [(0, .ref 44), (1, .ref 1), (2, .int (nI s)), (3, .int (nI (c + 1)))]) dX2_fewestFlips_88 rfl 3 rfl (nI_1 _) (by decide) rfl ?_
        refine zV_goto (tgt := 16) dX2_fewestFlips_91 rfl ?_
        exact ih _ ⟨by rw [bct_t h29, up2_same], fun i hi hb2 => by
            by_cases e : i = c
            · rw [e]; exact ⟨by rw [up2_ni (by decide), up2_ni (by decide), up2_ni (by decide), up2_same], by rw [up2_ni (by decide), up2_ni (by decide), up2_same], by rw [up2_ni (by decide), up2_same]⟩
            · have hl : bct s (i + 1) ≤ bct s c := bct_mono (by omega)
              rw [bct_t hb2] at hl
              have h9 := h1.2.1 i (by omega) hb2
              exact ⟨by rw [up2_ni (by decide), up2_ni (by decide), up2_ni (by decide), up2_nk (by omega)]; exact h9.1, by rw [up2_ni (by decide), up2_ni (by decide), up2_nk (by omega), up2_ni (by decide)]; exact h9.2.1, by rw [up2_ni (by decide), up2_nk (by omega), up2_ni (by decide), up2_ni (by decide)]; exact h9.2.2⟩, fun k hk => by rw [up2_nk hk, up2_ni (by decide), up2_ni (by decide), up2_ni (by decide)]; exact h1.2.2.1 k hk, fun i a1 a2 a3 a4 => by rw [← h1.2.2.2 i a1 a2 a3 a4]; funext k; rw [up2_ni a1, up2_ni a4, up2_ni a3, up2_ni a2]⟩
  · refine zV_iconst (v := (-1)) dX2_fewestFlips_7 rfl rfl ?_
    exact zV_ireturn dX2_fewestFlips_8 rfl rfl (⟨I, J, by rw [flp_no h4]; rfl, rfl, fun i _ _ _ _ => rfl⟩)

set_option maxRecDepth 100000 in
theorem p_flip {G : mG} {I : Nat → Nat → Int32} {J : Nat → Nat → Int64} {t : Nat} {B : Nat} {S : aS} (hC : InvC I S) (hw : wfS B S) {x y : Int32} : zC G yX6_flip (eX6_flip (g_rmv 13)) [.ref 0, .int x, .int y] (mm I J t) (fun r M => PC I (op_flip S x y) r M) := by
  refine zC_of (by decide +kernel) rfl (by decide) (Nat.le_of_ble_eq_true rfl) ?_
  have n10 := hw.1.1
  show zV G (eX6_flip (g_rmv 13)) (0, 0) 0 [(0, .ref 0), (1, .int x), (2, .int y)] [] (mm I J t) _
  refine zV_iload_n dX6_flip_0 rfl 1 rfl rfl ?_
  refine zV_callS (E' := eX6_isPurse (g_rmv 1)) (av := [.int x]) (st := []) dX6_flip_1 rfl (k_RX6_124 _) rfl ⟨by decide, by decide⟩ ⟨by decide, by decide⟩ (Or.inl rfl) rfl (Nat.le_of_ble_eq_true rfl) (c_isPurse (x := x)) (fun r1 M1 z => ?_)
  obtain ⟨rfl, rfl⟩ := z
  show zV G (eX6_flip (g_rmv 13)) (0, 0) 4 [(0, .ref 0), (1, .int x), (2, .int y)] [.int (b2 (inR x 3))] (mm I J t) _
  refine zB_if_eq (tgt := 17) dX6_flip_4 rfl rfl  (fun h4 => ?_) (fun h4 => ?_)
  · refine zV_aload_n dX6_flip_17 rfl 0 rfl rfl ?_
    refine zV_ldc (v := (-1000001)) dX6_flip_18 rfl tw264 ?_
    refine zV_callV (E' := eX6_tell (g_rmv 1)) (av := [.int (-1000001)]) (st := []) (b := 0) dX6_flip_20 rfl (k_RX6_70 _) rfl ⟨by decide, by decide⟩ ⟨by decide, by decide⟩ (Or.inl rfl) rfl (Nat.le_of_ble_eq_true rfl) rfl rfl rfl (c_tell (w := 0) (by decide) (by decide)) (fun r20 M20 z => ?_)
    obtain ⟨rfl, rfl⟩ := z
    show zV G (eX6_flip (g_rmv 13)) (0, 0) 23 [(0, .ref 0), (1, .int x), (2, .int y)] [.int (fdg 0)] (mm (up2 I 67 0 (I 67 0 + nI 1)) J t) _
    exact zV_ireturn dX6_flip_23 rfl rfl (PC.tell hC hw (by unfold op_flip; rw [if_neg h4]) (fun _ _ => rfl))
  · refine zV_iload_n dX6_flip_7 rfl 2 rfl rfl ?_
    refine zV_sipush (v := (nI 999)) dX6_flip_8 rfl rfl ?_
    refine zV_callS (E' := eX6_isWithin (g_rmv 0)) (av := [.int y, .int (nI 999)]) (st := []) dX6_flip_11 rfl (k_RX6_65 _) rfl ⟨by decide, by decide⟩ ⟨by decide, by decide⟩ (Or.inl rfl) rfl (Nat.le_of_ble_eq_true rfl) (c_isWithin (x := y) (y := (nI 999))) (fun r11 M11 z => ?_)
    obtain ⟨rfl, rfl⟩ := z
    show zV G (eX6_flip (g_rmv 13)) (0, 0) 14 [(0, .ref 0), (1, .int x), (2, .int y)] [.int (b2 (0 ≤ y ∧ y ≤ (nI 999)))] (mm I J t) _
    refine zB_if_ne (tgt := 24) dX6_flip_14 rfl rfl  (fun h14 => ?_) (fun h14 => ?_)
    · obtain ⟨p, hp, rfl⟩ := (inR_iff (by decide)).mp h4
      obtain ⟨v, hv, rfl⟩ := (inR_iff (by decide)).mp h14
      have hi1024 := ld_in_lt n10 p
      refine zV_aload_n dX6_flip_24 rfl 0 rfl rfl ?_
      refine zV_getr (q' := 44) 8 dX6_flip_25 rfl fl_RX6_50 rfl (by decide) rfl rfl ?_
      refine zV_callV (E' := eX2_wantNothing (g_rmv 1)) (av := []) (st := []) (b := 44) dX6_flip_28 rfl (k_RX6_203 _) rfl ⟨by decide, by decide⟩ ⟨by decide, by decide⟩ (Or.inl rfl) rfl (Nat.le_of_ble_eq_true rfl) rfl rfl rfl c_wantNothing (fun r28 M28 z => ?_)
      obtain ⟨J28, rfl, rfl, hX28, hJ28⟩ := z
      show zV G (eX6_flip (g_rmv 13)) (0, 0) 31 [(0, .ref 0), (1, .int (nI p)), (2, .int (nI v))] [] (mm (up2 (up2 I 44 2 (nI 1)) 44 3 (nI 1)) J28 t) _
      refine zV_aload_n dX6_flip_31 rfl 0 rfl rfl ?_
      refine zV_getr (q' := 44) 8 dX6_flip_32 rfl fl_RX6_50 rfl (by decide) rfl rfl ?_
      refine zV_iload_n dX6_flip_35 rfl 2 rfl rfl ?_
      refine zV_callV (E' := eX2_want (g_rmv 1)) (av := [.int (nI v)]) (st := []) (b := 44) dX6_flip_36 rfl (k_RX6_206 _) rfl ⟨by decide, by decide⟩ ⟨by decide, by decide⟩ (Or.inl rfl) rfl (Nat.le_of_ble_eq_true rfl) rfl rfl rfl (c_want (z := 0) (ns := fun _ => nI v) (wst.init hX28) rfl) (fun r36 M36 z => ?_)
      obtain ⟨I36, J36, rfl, rfl, hq36, hf36⟩ := z
      show zV G (eX6_flip (g_rmv 13)) (0, 0) 39 [(0, .ref 0), (1, .int (nI p)), (2, .int (nI v))] [] (mm I36 J36 t) _
      refine zV_aload_n dX6_flip_39 rfl 0 rfl rfl ?_
      refine zV_getr (q' := 44) 8 dX6_flip_40 rfl fl_RX6_50 rfl (by decide) rfl rfl ?_
      refine zV_aload_n dX6_flip_43 rfl 0 rfl rfl ?_
      refine zV_getr (q' := 1) 0 dX6_flip_44 rfl fl_RX6_12 rfl (by decide) rfl rfl ?_
      refine zV_aload_n dX6_flip_47 rfl 0 rfl rfl ?_
      refine zV_getr (q' := 1) 0 dX6_flip_48 rfl fl_RX6_12 rfl (by decide) rfl rfl ?_
      refine zV_iload_n dX6_flip_51 rfl 1 rfl rfl ?_
      refine zV_callV (E' := eX1_coinsIn (g_rmv 0)) (av := [.int (nI p)]) (st := [.ref 1, .ref 44]) (b := 1) dX6_flip_52 rfl (k_RX6_127 _) rfl ⟨by decide, by decide⟩ ⟨by decide, by decide⟩ (Or.inl rfl) rfl (Nat.le_of_ble_eq_true rfl) (sh_land (Or.inl rfl)) rfl rfl (c_coinsIn (p := p) (Or.inl rfl) (hC.1.mv n10 (fun i a b => by rw [hf36 i (by omega)]; funext k; rw [up2_ni (by omega), up2_ni (by omega)])) hw.1 (by omega)) (fun r52 M52 z => ?_)
      obtain ⟨rfl, rfl⟩ := z
      show zV G (eX6_flip (g_rmv 13)) (0, 0) 55 [(0, .ref 0), (1, .int (nI p)), (2, .int (nI v))] [.int (nI (ld_in S.1 p)), .ref 1, .ref 44] (mm I36 J36 t) _
      refine zV_callV (E' := eX2_fewestFlips (g_rmv 12)) (av := [.ref 1, .int (nI (ld_in S.1 p))]) (st := []) (b := 44) dX6_flip_55 rfl (k_RX6_209 _) rfl ⟨by decide, by decide⟩ ⟨by decide, by decide⟩ (Or.inl rfl) rfl (Nat.le_of_ble_eq_true rfl) rfl rfl rfl (c_fewestF (s := (ld_in S.1 p)) (z := 1) (ns := fun _ => nI v) (hC.1.mv n10 (fun i a b => by rw [hf36 i (by omega)]; funext k; rw [up2_ni (by omega), up2_ni (by omega)])) hw.1 (ld_in_p _ _) hq36) (fun r55 M55 z => ?_)
      obtain ⟨I55, J55, rfl, rfl, hf55⟩ := z
      show zV G (eX6_flip (g_rmv 13)) (0, 0) 58 [(0, .ref 0), (1, .int (nI p)), (2, .int (nI v))] [.int (ans (ld_flp S.1 (ld_in S.1 p) 1 (fun _ => nI v)))] (mm I55 J55 t) _
      refine zV_istore_n (lv' := [(0, .ref 0), (1, .int (nI p)), (2, .int (nI v)), (3, .int (ans (ld_flp S.1 (ld_in S.1 p) 1 (fun _ => nI v))))]) dX6_flip_58 rfl rfl (by decide) rfl ?_
      cases eo : (ld_flp S.1 (ld_in S.1 p) 1 (fun _ => nI v)) with
      | none =>
        show zV G (eX6_flip (g_rmv 13)) (0, 0) 59 [(0, .ref 0), (1, .int (nI p)), (2, .int (nI v)), (3, .int (-1))] [] (mm I55 J55 t) _
        refine zV_iload_n dX6_flip_59 rfl 3 rfl rfl ?_
        refine zV_if_lt (tgt := 67) dX6_flip_60 rfl rfl  (fun _ => ?_) (fun z => absurd z (by decide))
        refine zV_aload_n dX6_flip_67 rfl 0 rfl rfl ?_
        refine zV_ldc (v := (-1000004)) dX6_flip_68 rfl tw424 ?_
        refine zV_callV (E' := eX6_tell (g_rmv 1)) (av := [.int (-1000004)]) (st := []) (b := 0) dX6_flip_70 rfl (k_RX6_70 _) rfl ⟨by decide, by decide⟩ ⟨by decide, by decide⟩ (Or.inl rfl) rfl (Nat.le_of_ble_eq_true rfl) rfl rfl rfl (c_tell (w := 3) (by decide) (by decide)) (fun r70 M70 z => ?_)
        obtain ⟨rfl, rfl⟩ := z
        show zV G (eX6_flip (g_rmv 13)) (0, 0) 73 [(0, .ref 0), (1, .int (nI p)), (2, .int (nI v)), (3, .int (-1))] [.int (fdg 3)] (mm (up2 I55 67 3 (I55 67 3 + nI 1)) J55 t) _
        exact zV_ireturn dX6_flip_73 rfl rfl (PC.tell (hC.mv hw (fun i hi _ => by rw [hf55 i (by unfold scr at hi; omega) (by unfold scr at hi; omega) (by unfold scr at hi; omega) (by unfold scr at hi; omega), hf36 i (by unfold scr at hi; omega)]; funext k; rw [up2_ni (by unfold scr at hi; omega), up2_ni (by unfold scr at hi; omega)])) hw (by unfold op_flip; rw [if_pos h4, if_pos h14, tn_nI (show p < 2 ^ 31 by omega), eo]) (fun i hi => by rw [hf55 i (by  omega) (by  omega) (by  omega) (by  omega), hf36 i (by  omega)]; funext k; rw [up2_ni (by  omega), up2_ni (by  omega)]))
      | some tt =>
        have hle2 := isSub_le (fo_bst _ _ eo).1
        show zV G (eX6_flip (g_rmv 13)) (0, 0) 59 [(0, .ref 0), (1, .int (nI p)), (2, .int (nI v)), (3, .int (nI tt))] [] (mm I55 J55 t) _
        refine zV_iload_n dX6_flip_59 rfl 3 rfl rfl ?_
        refine zN_if_lt (tgt := 67) dX6_flip_60 rfl (by omega) rfl ?_
        refine zV_iload_n dX6_flip_63 rfl 3 rfl rfl ?_
        refine zV_goto (tgt := 73) dX6_flip_64 rfl ?_
        exact zV_ireturn dX6_flip_73 rfl rfl (PC.same hC hw (by unfold op_flip; rw [if_pos h4, if_pos h14, tn_nI (show p < 2 ^ 31 by omega), eo]) (fun i hi => by rw [hf55 i (by unfold scr at hi; omega) (by unfold scr at hi; omega) (by unfold scr at hi; omega) (by unfold scr at hi; omega), hf36 i (by unfold scr at hi; omega)]; funext k; rw [up2_ni (by unfold scr at hi; omega), up2_ni (by unfold scr at hi; omega)]))
    · refine zV_aload_n dX6_flip_17 rfl 0 rfl rfl ?_
      refine zV_ldc (v := (-1000001)) dX6_flip_18 rfl tw264 ?_
      refine zV_callV (E' := eX6_tell (g_rmv 1)) (av := [.int (-1000001)]) (st := []) (b := 0) dX6_flip_20 rfl (k_RX6_70 _) rfl ⟨by decide, by decide⟩ ⟨by decide, by decide⟩ (Or.inl rfl) rfl (Nat.le_of_ble_eq_true rfl) rfl rfl rfl (c_tell (w := 0) (by decide) (by decide)) (fun r20 M20 z => ?_)
      obtain ⟨rfl, rfl⟩ := z
      show zV G (eX6_flip (g_rmv 13)) (0, 0) 23 [(0, .ref 0), (1, .int x), (2, .int y)] [.int (fdg 0)] (mm (up2 I 67 0 (I 67 0 + nI 1)) J t) _
      exact zV_ireturn dX6_flip_23 rfl rfl (PC.tell hC hw (by unfold op_flip; rw [if_pos h4, if_neg h14]) (fun _ _ => rfl))

set_option maxRecDepth 100000 in
theorem p_strike {G : mG} {I : Nat → Nat → Int32} {J : Nat → Nat → Int64} {t : Nat} {B : Nat} {S : aS} (hC : InvC I S) (hw : wfS B S) {x y : Int32} : zC G yX6_strike (eX6_strike (g_rmv 13)) [.ref 0, .int x, .int y] (mm I J t) (fun r M => PC I (op_strike S x y) r M) := by
  refine zC_of (by decide +kernel) rfl (by decide) (Nat.le_of_ble_eq_true rfl) ?_
  have n10 := hw.1.1
  show zV G (eX6_strike (g_rmv 13)) (0, 0) 0 [(0, .ref 0), (1, .int x), (2, .int y)] [] (mm I J t) _
  by_cases h0 : inR x 3
  · obtain ⟨s, hs3, rfl⟩ := (inR_iff (by decide)).mp h0
    have hs : s < 4 := by omega
    have bs := (hw.2.2.2.2.2.1 s hs).1
    have zs40 := (hw.2.2.2.2.2.1 s hs).2
    by_cases h5 : S.2.2.2.2.2.1 s = 0
    · show zV G (eX6_strike (g_rmv 13)) (0, 0) 0 [(0, .ref 0), (1, .int (nI s)), (2, .int y)] [] (mm I J t) _
      refine zV_aload_n dX6_strike_0 rfl 0 rfl rfl ?_
      refine zV_iload_n dX6_strike_1 rfl 1 rfl rfl ?_
      refine zV_callV (E' := eX6_seekSheet (g_rmv 2)) (av := [.int (nI s)]) (st := []) (b := 0) dX6_strike_2 rfl (k_RX6_266 _) rfl ⟨by decide, by decide⟩ ⟨by decide, by decide⟩ (Or.inl rfl) rfl (Nat.le_of_ble_eq_true rfl) rfl rfl rfl (c_seek5 hC hw hs h5) (fun r2 M2 z => ?_)
      obtain ⟨rfl, rfl⟩ := z
      show zV G (eX6_strike (g_rmv 13)) (0, 0) 5 [(0, .ref 0), (1, .int (nI s)), (2, .int y)] [.int (-1000006)] (mm I J t) _
      refine zV_istore_n (lv' := [(0, .ref 0), (1, .int (nI s)), (2, .int y), (3, .int (-1000006))]) dX6_strike_5 rfl rfl (by decide) rfl ?_
      refine zV_iload_n dX6_strike_6 rfl 3 rfl rfl ?_
      refine zV_if_eq (tgt := 16) dX6_strike_7 rfl rfl  (fun z => absurd z (by decide)) (fun _ => ?_)
      refine zV_aload_n dX6_strike_10 rfl 0 rfl rfl ?_
      refine zV_iload_n dX6_strike_11 rfl 3 rfl rfl ?_
      refine zV_callV (E' := eX6_tell (g_rmv 1)) (av := [.int (-1000006)]) (st := []) (b := 0) dX6_strike_12 rfl (k_RX6_70 _) rfl ⟨by decide, by decide⟩ ⟨by decide, by decide⟩ (Or.inl rfl) rfl (Nat.le_of_ble_eq_true rfl) rfl rfl rfl (c_tell (w := 5) (by decide) (by decide)) (fun r12 M12 z => ?_)
      obtain ⟨rfl, rfl⟩ := z
      show zV G (eX6_strike (g_rmv 13)) (0, 0) 15 [(0, .ref 0), (1, .int (nI s)), (2, .int y), (3, .int (-1000006))] [.int (fdg 5)] (mm (up2 I 67 5 (I 67 5 + nI 1)) J t) _
      exact zV_ireturn dX6_strike_15 rfl rfl (PC.tell hC hw (by unfold op_strike; rw [if_pos h0, tn_nI (show s < 2 ^ 31 by omega), if_pos h5]) (fun _ _ => rfl))
    · show zV G (eX6_strike (g_rmv 13)) (0, 0) 0 [(0, .ref 0), (1, .int (nI s)), (2, .int y)] [] (mm I J t) _
      refine zV_aload_n dX6_strike_0 rfl 0 rfl rfl ?_
      refine zV_iload_n dX6_strike_1 rfl 1 rfl rfl ?_
      refine zV_callV (E' := eX6_seekSheet (g_rmv 2)) (av := [.int (nI s)]) (st := []) (b := 0) dX6_strike_2 rfl (k_RX6_266 _) rfl ⟨by decide, by decide⟩ ⟨by decide, by decide⟩ (Or.inl rfl) rfl (Nat.le_of_ble_eq_true rfl) rfl rfl rfl (c_seekF hC hw hs h5) (fun r2 M2 z => ?_)
      obtain ⟨rfl, rfl⟩ := z
      show zV G (eX6_strike (g_rmv 13)) (0, 0) 5 [(0, .ref 0), (1, .int (nI s)), (2, .int y)] [.int (nI 0)] (mm I J t) _
      refine zV_istore_n (lv' := [(0, .ref 0), (1, .int (nI s)), (2, .int y), (3, .int (nI 0))]) dX6_strike_5 rfl rfl (by decide) rfl ?_
      refine zV_iload_n dX6_strike_6 rfl 3 rfl rfl ?_
      refine zN_if_eq (tgt := 16) dX6_strike_7 rfl rfl (by decide) (fun _ => ?_) (fun z => absurd z (by decide))
      refine zV_iload_n dX6_strike_16 rfl 2 rfl rfl ?_
      refine zV_callS (E' := eX6_isPurse (g_rmv 1)) (av := [.int y]) (st := []) dX6_strike_17 rfl (k_RX6_124 _) rfl ⟨by decide, by decide⟩ ⟨by decide, by decide⟩ (Or.inl rfl) rfl (Nat.le_of_ble_eq_true rfl) (c_isPurse (x := y)) (fun r17 M17 z => ?_)
      obtain ⟨rfl, rfl⟩ := z
      show zV G (eX6_strike (g_rmv 13)) (0, 0) 20 [(0, .ref 0), (1, .int (nI s)), (2, .int y), (3, .int (nI 0))] [.int (b2 (inR y 3))] (mm I J t) _
      refine zB_if_ne (tgt := 30) dX6_strike_20 rfl rfl  (fun h20 => ?_) (fun h20 => ?_)
      · obtain ⟨p, hp, rfl⟩ := (inR_iff (by decide)).mp h20
        have hi1024 := ld_in_lt n10 p
        refine zV_aload_n dX6_strike_30 rfl 0 rfl rfl ?_
        refine zV_getr (q' := 44) 8 dX6_strike_31 rfl fl_RX6_50 rfl (by decide) rfl rfl ?_
        refine zV_callV (E' := eX2_wantNothing (g_rmv 1)) (av := []) (st := []) (b := 44) dX6_strike_34 rfl (k_RX6_203 _) rfl ⟨by decide, by decide⟩ ⟨by decide, by decide⟩ (Or.inl rfl) rfl (Nat.le_of_ble_eq_true rfl) rfl rfl rfl c_wantNothing (fun r34 M34 z => ?_)
        obtain ⟨J34, rfl, rfl, hX34, hJ34⟩ := z
        show zV G (eX6_strike (g_rmv 13)) (0, 0) 37 [(0, .ref 0), (1, .int (nI s)), (2, .int (nI p)), (3, .int (nI 0))] [] (mm (up2 (up2 I 44 2 (nI 1)) 44 3 (nI 1)) J34 t) _
        refine zV_iconst (v := (nI 0)) dX6_strike_37 rfl rfl ?_
        refine zV_istore (lv' := [(0, .ref 0), (1, .int (nI s)), (2, .int (nI p)), (3, .int (nI 0)), (4, .int (nI 0))]) dX6_strike_38 rfl (by decide) rfl ?_
        refine z_for (fun c => ∀ (I1 : Nat → Nat → Int32) (J1 : Nat → Nat → Int64), (wst I1 J1 c (S.2.2.2.2.2.2.2 s) ∧ ∀ i, i ≠ 44 → I1 i = I i) → zV G (eX6_strike (g_rmv 13)) (0, 0) 40 [(0, .ref 0), (1, .int (nI s)), (2, .int (nI p)), (3, .int (nI 0)), (4, .int (nI c))] [] (mm I1 J1 t) _) (S.2.2.2.2.2.2.1 s) ?_ ?_ 0 (Nat.zero_le _) _ J34 ⟨wst.init hX34, fun i hi => by funext k; rw [up2_ni hi, up2_ni hi]⟩
        · intro I1 J1 h1
          refine zV_iload dX6_strike_40 rfl 4 rfl ?_
          refine zV_aload_n dX6_strike_42 rfl 0 rfl rfl ?_
          refine zV_getr (q' := 43) 7 dX6_strike_43 rfl fl_RX6_43 rfl (by decide) rfl rfl ?_
          refine zV_iload_n dX6_strike_46 rfl 1 rfl rfl ?_
          refine zV_aaload (q' := (68 + 2 * s)) s dX6_strike_47 rfl rfl rfl (by decide) rfl (by omega) (by decide) (R_sheet (by omega)) ?_
          refine zV_getI (x := (nI (S.2.2.2.2.2.2.1 s))) 2 dX6_strike_48 rfl fl_RX6_263 (sh_sheet (by omega)) (by decide) rfl (by rw [h1.2 (68 + 2 * s) (by omega)]; exact (hC.2.2.2.2.2.2 s hs).2.1) ?_
          refine zN_icmp_ge (tgt := 79) dX6_strike_51 rfl rfl (by omega) (by omega) (fun _ => ?_) (fun z => absurd z (by omega))
          refine zV_aload_n dX6_strike_79 rfl 0 rfl rfl ?_
          refine zV_getr (q' := 44) 8 dX6_strike_80 rfl fl_RX6_50 rfl (by decide) rfl rfl ?_
          refine zV_aload_n dX6_strike_83 rfl 0 rfl rfl ?_
          refine zV_getr (q' := 1) 0 dX6_strike_84 rfl fl_RX6_12 rfl (by decide) rfl rfl ?_
          refine zV_aload_n dX6_strike_87 rfl 0 rfl rfl ?_
          refine zV_getr (q' := 1) 0 dX6_strike_88 rfl fl_RX6_12 rfl (by decide) rfl rfl ?_
          refine zV_iload_n dX6_strike_91 rfl 2 rfl rfl ?_
          refine zV_callV (E' := eX1_coinsIn (g_rmv 0)) (av := [.int (nI p)]) (st := [.ref 1, .ref 44]) (b := 1) dX6_strike_92 rfl (k_RX6_127 _) rfl ⟨by decide, by decide⟩ ⟨by decide, by decide⟩ (Or.inl rfl) rfl (Nat.le_of_ble_eq_true rfl) (sh_land (Or.inl rfl)) rfl rfl (c_coinsIn (p := p) (Or.inl rfl) (hC.1.mv n10 (fun i a b => h1.2 i (by omega))) hw.1 (by omega)) (fun r92 M92 z => ?_)
          obtain ⟨rfl, rfl⟩ := z
          show zV G (eX6_strike (g_rmv 13)) (0, 0) 95 [(0, .ref 0), (1, .int (nI s)), (2, .int (nI p)), (3, .int (nI 0)), (4, .int (nI (S.2.2.2.2.2.2.1 s)))] [.int (nI (ld_in S.1 p)), .ref 1, .ref 44] (mm I1 J1 t) _
          refine zV_callV (E' := eX2_fewestFlips (g_rmv 12)) (av := [.ref 1, .int (nI (ld_in S.1 p))]) (st := []) (b := 44) dX6_strike_95 rfl (k_RX6_209 _) rfl ⟨by decide, by decide⟩ ⟨by decide, by decide⟩ (Or.inl rfl) rfl (Nat.le_of_ble_eq_true rfl) rfl rfl rfl (c_fewestF (s := (ld_in S.1 p)) (z := S.2.2.2.2.2.2.1 s) (ns := S.2.2.2.2.2.2.2 s) (hC.1.mv n10 (fun i a b => h1.2 i (by omega))) hw.1 (ld_in_p _ _) h1.1) (fun r95 M95 z => ?_)
          obtain ⟨I95, J95, rfl, rfl, hf95⟩ := z
          show zV G (eX6_strike (g_rmv 13)) (0, 0) 98 [(0, .ref 0), (1, .int (nI s)), (2, .int (nI p)), (3, .int (nI 0)), (4, .int (nI (S.2.2.2.2.2.2.1 s)))] [.int (ans (ld_flp S.1 (ld_in S.1 p) (S.2.2.2.2.2.2.1 s) (S.2.2.2.2.2.2.2 s)))] (mm I95 J95 t) _
          refine zV_istore (lv' := [(0, .ref 0), (1, .int (nI s)), (2, .int (nI p)), (3, .int (nI 0)), (4, .int (ans (ld_flp S.1 (ld_in S.1 p) (S.2.2.2.2.2.2.1 s) (S.2.2.2.2.2.2.2 s))))]) dX6_strike_98 rfl (by decide) rfl ?_
          cases eo : (ld_flp S.1 (ld_in S.1 p) (S.2.2.2.2.2.2.1 s) (S.2.2.2.2.2.2.2 s)) with
          | none =>
            show zV G (eX6_strike (g_rmv 13)) (0, 0) 100 [(0, .ref 0), (1, .int (nI s)), (2, .int (nI p)), (3, .int (nI 0)), (4, .int (-1))] [] (mm I95 J95 t) _
            refine zV_iload dX6_strike_100 rfl 4 rfl ?_
            refine zV_if_lt (tgt := 110) dX6_strike_102 rfl rfl  (fun _ => ?_) (fun z => absurd z (by decide))
            refine zV_aload_n dX6_strike_110 rfl 0 rfl rfl ?_
            refine zV_ldc (v := (-1000004)) dX6_strike_111 rfl tw424 ?_
            refine zV_callV (E' := eX6_tell (g_rmv 1)) (av := [.int (-1000004)]) (st := []) (b := 0) dX6_strike_113 rfl (k_RX6_70 _) rfl ⟨by decide, by decide⟩ ⟨by decide, by decide⟩ (Or.inl rfl) rfl (Nat.le_of_ble_eq_true rfl) rfl rfl rfl (c_tell (w := 3) (by decide) (by decide)) (fun r113 M113 z => ?_)
            obtain ⟨rfl, rfl⟩ := z
            show zV G (eX6_strike (g_rmv 13)) (0, 0) 116 [(0, .ref 0), (1, .int (nI s)), (2, .int (nI p)), (3, .int (nI 0)), (4, .int (-1))] [.int (fdg 3)] (mm (up2 I95 67 3 (I95 67 3 + nI 1)) J95 t) _
            exact zV_ireturn dX6_strike_116 rfl rfl (PC.tell (hC.mv hw (fun i hi _ => by rw [hf95 i (by unfold scr at hi; omega) (by unfold scr at hi; omega) (by unfold scr at hi; omega) (by unfold scr at hi; omega), h1.2 i (by unfold scr at hi; omega)])) hw (by unfold op_strike; rw [if_pos h0, tn_nI (show s < 2 ^ 31 by omega), if_neg h5, if_pos h20, tn_nI (show p < 2 ^ 31 by omega), eo]) (fun i hi => by rw [hf95 i (by  omega) (by  omega) (by  omega) (by  omega), h1.2 i (by  omega)]))
          | some tt =>
            have hle2 := isSub_le (fo_bst _ _ eo).1
            show zV G (eX6_strike (g_rmv 13)) (0, 0) 100 [(0, .ref 0), (1, .int (nI s)), (2, .int (nI p)), (3, .int (nI 0)), (4, .int (nI tt))] [] (mm I95 J95 t) _
            refine zV_iload dX6_strike_100 rfl 4 rfl ?_
            refine zN_if_lt (tgt := 110) dX6_strike_102 rfl (by omega) rfl ?_
            refine zV_iload dX6_strike_105 rfl 4 rfl ?_
            refine zV_goto (tgt := 116) dX6_strike_107 rfl ?_
            exact zV_ireturn dX6_strike_116 rfl rfl (PC.same hC hw (by unfold op_strike; rw [if_pos h0, tn_nI (show s < 2 ^ 31 by omega), if_neg h5, if_pos h20, tn_nI (show p < 2 ^ 31 by omega), eo]) (fun i hi => by rw [hf95 i (by unfold scr at hi; omega) (by unfold scr at hi; omega) (by unfold scr at hi; omega) (by unfold scr at hi; omega), h1.2 i (by unfold scr at hi; omega)]))
        · intro c hc ih
          intro I1 J1 h1
          refine zV_iload dX6_strike_40 rfl 4 rfl ?_
          refine zV_aload_n dX6_strike_42 rfl 0 rfl rfl ?_
          refine zV_getr (q' := 43) 7 dX6_strike_43 rfl fl_RX6_43 rfl (by decide) rfl rfl ?_
          refine zV_iload_n dX6_strike_46 rfl 1 rfl rfl ?_
          refine zV_aaload (q' := (68 + 2 * s)) s dX6_strike_47 rfl rfl rfl (by decide) rfl (by omega) (by decide) (R_sheet (by omega)) ?_
          refine zV_getI (x := (nI (S.2.2.2.2.2.2.1 s))) 2 dX6_strike_48 rfl fl_RX6_263 (sh_sheet (by omega)) (by decide) rfl (by rw [h1.2 (68 + 2 * s) (by omega)]; exact (hC.2.2.2.2.2.2 s hs).2.1) ?_
          refine zN_icmp_ge (tgt := 79) dX6_strike_51 rfl rfl (by omega) (by omega) (fun z => absurd z (by omega)) (fun _ => ?_)
          refine zV_aload_n dX6_strike_54 rfl 0 rfl rfl ?_
          refine zV_getr (q' := 44) 8 dX6_strike_55 rfl fl_RX6_50 rfl (by decide) rfl rfl ?_
          refine zV_aload_n dX6_strike_58 rfl 0 rfl rfl ?_
          refine zV_getr (q' := 43) 7 dX6_strike_59 rfl fl_RX6_43 rfl (by decide) rfl rfl ?_
          refine zV_iload_n dX6_strike_62 rfl 1 rfl rfl ?_
          refine zV_aaload (q' := (68 + 2 * s)) s dX6_strike_63 rfl rfl rfl (by decide) rfl (by omega) (by decide) (R_sheet (by omega)) ?_
          refine zV_getrX (q' := (69 + 2 * s)) 0 dX6_strike_64 rfl fl_RX6_282 (sh_sheet (by omega)) (by decide) rfl (R_nums (by omega)) ?_
          refine zV_iload dX6_strike_67 rfl 4 rfl ?_
          refine zV_iald (x := (S.2.2.2.2.2.2.2 s c)) c dX6_strike_69 rfl (sh_nums (by omega)) rfl (by omega) (by decide) (by rw [h1.2 (69 + 2 * s) (by omega)]; exact (hC.2.2.2.2.2.2 s hs).2.2 c (by omega)) ?_
          refine zV_callV (E' := eX2_want (g_rmv 1)) (av := [.int (S.2.2.2.2.2.2.2 s c)]) (st := []) (b := 44) dX6_strike_70 rfl (k_RX6_206 _) rfl ⟨by decide, by decide⟩ ⟨by decide, by decide⟩ (Or.inl rfl) rfl (Nat.le_of_ble_eq_true rfl) rfl rfl rfl (c_want (z := c) (ns := S.2.2.2.2.2.2.2 s) h1.1 rfl) (fun r70 M70 z => ?_)
          obtain ⟨I70, J70, rfl, rfl, hq70, hf70⟩ := z
          show zV G (eX6_strike (g_rmv 13)) (0, 0) 73 [(0, .ref 0), (1, .int (nI s)), (2, .int (nI p)), (3, .int (nI 0)), (4, .int (nI c))] [] (mm I70 J70 t) _
          refine zV_iinc (y := (nI (c + 1))) (lv' := [(0, .ref 0), (1, .int (nI s)), (2, .int (nI p)), (3, .int (nI 0)), (4, .int (nI (c + 1)))]) dX6_strike_73 rfl 4 rfl (nI_1 _) (by decide) rfl ?_
          refine zV_goto (tgt := 40) dX6_strike_76 rfl ?_
          exact ih I70 J70 ⟨hq70, fun i hi => (hf70 i hi).trans (h1.2 i hi)⟩
      · refine zV_aload_n dX6_strike_23 rfl 0 rfl rfl ?_
        refine zV_ldc (v := (-1000001)) dX6_strike_24 rfl tw264 ?_
        refine zV_callV (E' := eX6_tell (g_rmv 1)) (av := [.int (-1000001)]) (st := []) (b := 0) dX6_strike_26 rfl (k_RX6_70 _) rfl ⟨by decide, by decide⟩ ⟨by decide, by decide⟩ (Or.inl rfl) rfl (Nat.le_of_ble_eq_true rfl) rfl rfl rfl (c_tell (w := 0) (by decide) (by decide)) (fun r26 M26 z => ?_)
        obtain ⟨rfl, rfl⟩ := z
        show zV G (eX6_strike (g_rmv 13)) (0, 0) 29 [(0, .ref 0), (1, .int (nI s)), (2, .int y), (3, .int (nI 0))] [.int (fdg 0)] (mm (up2 I 67 0 (I 67 0 + nI 1)) J t) _
        exact zV_ireturn dX6_strike_29 rfl rfl (PC.tell hC hw (by unfold op_strike; rw [if_pos h0, tn_nI (show s < 2 ^ 31 by omega), if_neg h5, if_neg h20]) (fun _ _ => rfl))
  · show zV G (eX6_strike (g_rmv 13)) (0, 0) 0 [(0, .ref 0), (1, .int x), (2, .int y)] [] (mm I J t) _
    refine zV_aload_n dX6_strike_0 rfl 0 rfl rfl ?_
    refine zV_iload_n dX6_strike_1 rfl 1 rfl rfl ?_
    refine zV_callV (E' := eX6_seekSheet (g_rmv 2)) (av := [.int x]) (st := []) (b := 0) dX6_strike_2 rfl (k_RX6_266 _) rfl ⟨by decide, by decide⟩ ⟨by decide, by decide⟩ (Or.inl rfl) rfl (Nat.le_of_ble_eq_true rfl) rfl rfl rfl (c_seek0 h0) (fun r2 M2 z => ?_)
    obtain ⟨rfl, rfl⟩ := z
    show zV G (eX6_strike (g_rmv 13)) (0, 0) 5 [(0, .ref 0), (1, .int x), (2, .int y)] [.int (-1000001)] (mm I J t) _
    refine zV_istore_n (lv' := [(0, .ref 0), (1, .int x), (2, .int y), (3, .int (-1000001))]) dX6_strike_5 rfl rfl (by decide) rfl ?_
    refine zV_iload_n dX6_strike_6 rfl 3 rfl rfl ?_
    refine zV_if_eq (tgt := 16) dX6_strike_7 rfl rfl  (fun z => absurd z (by decide)) (fun _ => ?_)
    refine zV_aload_n dX6_strike_10 rfl 0 rfl rfl ?_
    refine zV_iload_n dX6_strike_11 rfl 3 rfl rfl ?_
    refine zV_callV (E' := eX6_tell (g_rmv 1)) (av := [.int (-1000001)]) (st := []) (b := 0) dX6_strike_12 rfl (k_RX6_70 _) rfl ⟨by decide, by decide⟩ ⟨by decide, by decide⟩ (Or.inl rfl) rfl (Nat.le_of_ble_eq_true rfl) rfl rfl rfl (c_tell (w := 0) (by decide) (by decide)) (fun r12 M12 z => ?_)
    obtain ⟨rfl, rfl⟩ := z
    show zV G (eX6_strike (g_rmv 13)) (0, 0) 15 [(0, .ref 0), (1, .int x), (2, .int y), (3, .int (-1000001))] [.int (fdg 0)] (mm (up2 I 67 0 (I 67 0 + nI 1)) J t) _
    exact zV_ireturn dX6_strike_15 rfl rfl (PC.tell hC hw (by unfold op_strike; rw [if_neg h0]) (fun _ _ => rfl))
