/-! FLIPS: the class -/
theorem z_m64 : ∀ i, i < 64 → (-1 : Int64).toBitVec.getLsbD i = true := by decide +kernel
theorem z_andn (x y : Int64) : x &&& (y ^^^ (-1)) = 0 ↔ ∀ i, i < 64 → x.toBitVec.getLsbD i = true → y.toBitVec.getLsbD i = true := by
  have bits : ∀ i, i < 64 → (x &&& (y ^^^ (-1))).toBitVec.getLsbD i = (x.toBitVec.getLsbD i && !y.toBitVec.getLsbD i) := by
    intro i hi
    rw [Int64.toBitVec_and, Int64.toBitVec_xor, BitVec.getLsbD_and, BitVec.getLsbD_xor, z_m64 i hi, Bool.xor_true]
  constructor
  · intro h i hi hx
    have hb := bits i hi
    rw [h, z64_0, hx] at hb
    cases e : y.toBitVec.getLsbD i with
    | true => rfl
    | false => rw [e] at hb; cases hb
  · intro h
    apply Int64.toBitVec_inj.1
    apply BitVec.eq_of_getLsbD_eq
    intro i hi
    rw [bits i hi, z64_0]
    cases e : x.toBitVec.getLsbD i with
    | false => rfl
    | true => rw [h i hi e]; rfl
theorem jb_row {J J' : Nat → Nat → Int64} {r k : Nat} (h : J' r = J r) : jb J' r k = jb J r k := by
  unfold jb
  rw [h]
def okw (Wt : Nat → Bool) (W : Nat) (P : Nat → Bool) : Bool := alln (fun k => !Wt k || P k) (64 * W)
theorem okw_iff {Wt : Nat → Bool} {W : Nat} {P : Nat → Bool} : okw Wt W P = true ↔ ∀ k, k < 64 * W → Wt k = true → P k = true := by
  unfold okw
  rw [alln_iff]
  constructor
  · intro h k hk hw
    have h1 := h k hk
    rw [hw] at h1
    exact h1
  · intro h k hk
    cases e : Wt k with
    | false => rfl
    | true => rw [h k hk e]; rfl
theorem okw_word {J : Nat → Nat → Int64} {q W : Nat} {P Wt : Nat → Bool} (hW : W ≤ 16) (hP : ∀ k, k < 64 * W → jb J q k = P k) (hWt : ∀ k, k < 1024 → jb J 57 k = Wt k) : okw Wt W P = true ↔ ∀ w, w < W → (J 57 w &&& (J q w ^^^ (-1))) = 0 := by
  rw [okw_iff]
  constructor
  · intro h w hw
    rw [z_andn]
    intro i hi hx
    have h1 := h (64 * w + i) (by omega)
    rw [← hP _ (by omega), ← hWt _ (by omega)] at h1
    unfold jb at h1
    rw [show (64 * w + i) / 64 = w by omega, show (64 * w + i) % 64 = i by omega] at h1
    exact h1 hx
  · intro h k hk
    have h1 := (z_andn _ _).mp (h (k / 64) (by omega)) (k % 64) (by omega)
    rw [← hP _ (by omega), ← hWt _ (by omega)]
    exact h1
set_option maxRecDepth 100000 in
theorem c_hasAll {G : mG} {I : Nat → Nat → Int32} {J : Nat → Nat → Int64} {t : Nat} {q W : Nat} {P Wt : Nat → Bool} (hq : sh0[q]? = some (1, 1, 16)) (hW : W ≤ 16) (hI : I 44 3 = nI W) (hP : ∀ k, k < 64 * W → jb J q k = P k) (hWt : ∀ k, k < 1024 → jb J 57 k = Wt k) : zC G yX2_hasAllWanted (eX2_hasAllWanted (g_rmv 0)) [.ref 44, .ref q] (mm I J t) (fun r M => r = some (.int (b2 (okw Wt W P = true))) ∧ M = mm I J t) := by
  refine zC_of (by decide +kernel) rfl (by decide) (Nat.le_of_ble_eq_true rfl) ?_
  show zV G (eX2_hasAllWanted (g_rmv 0)) (0, 0) 0 [(0, .ref 44), (1, .ref q)] [] (mm I J t) _
  refine zV_iconst (v := (nI 0)) dX2_hasAllWanted_0 rfl rfl ?_
  refine zV_istore_n (lv' := [(0, .ref 44), (1, .ref q), (2, .int (nI 0))]) dX2_hasAllWanted_1 rfl rfl (by decide) rfl ?_
  refine z_for (fun w => (∀ j, j < w → (J 57 j &&& (J q j ^^^ (-1))) = 0) → zV G (eX2_hasAllWanted (g_rmv 0)) (0, 0) 2 [(0, .ref 44), (1, .ref q), (2, .int (nI w))] [] (mm I J t) _) W ?_ ?_ 0 (Nat.zero_le _) (fun j h => absurd h (Nat.not_lt_zero _))
  · intro hno
    refine zV_iload_n dX2_hasAllWanted_2 rfl 2 rfl rfl ?_
    refine zV_aload_n dX2_hasAllWanted_3 rfl 0 rfl rfl ?_
    refine zV_getI (x := (nI W)) 3 dX2_hasAllWanted_4 rfl fl_RX2_24 rfl (by decide) rfl hI ?_
    refine zN_icmp_ge (tgt := 37) dX2_hasAllWanted_7 rfl rfl (by omega) (by omega) (fun _ => ?_) (fun z => absurd z (by omega))
    refine zV_iconst (v := (nI 1)) dX2_hasAllWanted_37 rfl rfl ?_
    exact zV_ireturn dX2_hasAllWanted_38 rfl rfl (⟨z_b1 ((okw_word hW hP hWt).mpr hno), rfl⟩)
  · intro w hw ih hno
    refine zV_iload_n dX2_hasAllWanted_2 rfl 2 rfl rfl ?_
    refine zV_aload_n dX2_hasAllWanted_3 rfl 0 rfl rfl ?_
    refine zV_getI (x := (nI W)) 3 dX2_hasAllWanted_4 rfl fl_RX2_24 rfl (by decide) rfl hI ?_
    refine zN_icmp_ge (tgt := 37) dX2_hasAllWanted_7 rfl rfl (by omega) (by omega) (fun z => absurd z (by omega)) (fun _ => ?_)
    refine zV_aload_n dX2_hasAllWanted_10 rfl 0 rfl rfl ?_
    refine zV_getr (q' := 57) 1 dX2_hasAllWanted_11 rfl fl_RX2_16 rfl (by decide) rfl rfl ?_
    refine zV_iload_n dX2_hasAllWanted_14 rfl 2 rfl rfl ?_
    refine zV_laload w dX2_hasAllWanted_15 rfl rfl rfl (by omega) (by decide) ?_
    refine zV_aload_n dX2_hasAllWanted_16 rfl 1 rfl rfl ?_
    refine zV_iload_n dX2_hasAllWanted_17 rfl 2 rfl rfl ?_
    refine zV_laload w dX2_hasAllWanted_18 rfl hq rfl (by omega) (by decide) ?_
    refine zV_ldc2 (v := (-1)) dX2_hasAllWanted_19 rfl tw596 ?_
    refine zA_lxor (z := ((J q w) ^^^ (-1))) dX2_hasAllWanted_22 rfl  (rfl) ?_
    refine zA_land (z := ((J 57 w) &&& ((J q w) ^^^ (-1)))) dX2_hasAllWanted_23 rfl  (rfl) ?_
    refine zV_lconst (v := 0) dX2_hasAllWanted_24 rfl rfl ?_
    refine zA_lcmp (z := (lg_cmp ((J 57 w) &&& ((J q w) ^^^ (-1))) 0)) dX2_hasAllWanted_25 rfl  (rfl) ?_
    refine zV_if_eq (tgt := 31) dX2_hasAllWanted_26 rfl rfl  (fun h26 => ?_) (fun h26 => ?_)
    · refine zV_iinc (y := (nI (w + 1))) (lv' := [(0, .ref 44), (1, .ref q), (2, .int (nI (w + 1)))]) dX2_hasAllWanted_31 rfl 2 rfl (nI_1 _) (by decide) rfl ?_
      refine zV_goto (tgt := 2) dX2_hasAllWanted_34 rfl ?_
      exact ih (fun j hj => by (by_cases e : j = w); (· subst e; exact lgc_0.mp h26); (· exact hno j (by omega)))
    · refine zV_iconst (v := (nI 0)) dX2_hasAllWanted_29 rfl rfl ?_
      exact zV_ireturn dX2_hasAllWanted_30 rfl rfl (⟨z_b0 (fun z => h26 (lgc_0.mpr ((okw_word hW hP hWt).mp z w hw))), rfl⟩)

def tfH (a nw ot : Nat → Nat) (n W : Nat) (Wt : Nat → Bool) (I : Nat → Nat → Int32) (J : Nat → Nat → Int64) (m d fl best : Nat) (P : Nat → Bool) : Prop := d + m = n ∧ n ≤ 10 ∧ I 44 7 = nI n ∧ I 44 8 = nI best ∧ best ≤ 11264 ∧ I 44 3 = nI W ∧ W ≤ 16 ∧ (∀ i, i < n → I 58 i = nI (a i) ∧ I 59 i = nI (nw (a i)) ∧ I 60 i = nI (ot (a i)) ∧ a i < 10 ∧ nw (a i) ≤ 100 ∧ ot (a i) ≤ 100) ∧ fl ≤ 2048 * d ∧ (∀ k, k < 64 * W → jb J (46 + d) k = P k) ∧ ∀ k, k < 1024 → jb J 57 k = Wt k
def tfQ (a nw ot : Nat → Nat) (W : Nat) (Wt : Nat → Bool) (I : Nat → Nat → Int32) (J : Nat → Nat → Int64) (t m d fl best : Nat) (P : Nat → Bool) (r : Option Value) (M : mM) : Prop := ∃ (I' : Nat → Nat → Int32) (J' : Nat → Nat → Int64), r = none ∧ M = mm I' J' t ∧ I' 44 8 = nI (min best (fl + mn a nw ot (okw Wt W) m d P)) ∧ (∀ k, k ≠ 8 → I' 44 k = I 44 k) ∧ (∀ i, i ≠ 44 → I' i = I i) ∧ ∀ i, (i ≤ 46 + d ∨ 56 < i) → J' i = J i
def tfA (G : mG) (a nw ot : Nat → Nat) (n W : Nat) (Wt : Nat → Bool) (m : Nat) : Prop := ∀ (I : Nat → Nat → Int32) (J : Nat → Nat → Int64) (t d fl best : Nat) (P : Nat → Bool), tfH a nw ot n W Wt I J m d fl best P → zC G yX2_tryFlips (eX2_tryFlips (g_rmv (m + 1))) [.ref 44, .int (nI d), .int (nI fl)] (mm I J t) (tfQ a nw ot W Wt I J t m d fl best P)
set_option maxRecDepth 100000 in
theorem c_try0 {G : mG} {I : Nat → Nat → Int32} {J : Nat → Nat → Int64} {t : Nat} {a nw ot : Nat → Nat} {n W d fl best : Nat} {P Wt : Nat → Bool} (hH : tfH a nw ot n W Wt I J 0 d fl best P) : zC G yX2_tryFlips (eX2_tryFlips (g_rmv (0 + 1))) [.ref 44, .int (nI d), .int (nI fl)] (mm I J t) (tfQ a nw ot W Wt I J t 0 d fl best P) := by
  refine zC_of (by decide +kernel) rfl (fun h => by cases h) (Nat.le_of_ble_eq_true rfl) ?_
  obtain ⟨hd, hn, hsz, hbs, hb, hwd, hW, harr, hfl, hP, hWt⟩ := hH
  show zV G (eX2_tryFlips (g_rmv (0 + 1))) (0, 0) 0 [(0, .ref 44), (1, .int (nI d)), (2, .int (nI fl))] [] (mm I J t) _
  refine zV_iload_n dX2_tryFlips_0 rfl 2 rfl rfl ?_
  refine zV_aload_n dX2_tryFlips_1 rfl 0 rfl rfl ?_
  refine zV_getI (x := (nI best)) 8 dX2_tryFlips_2 rfl fl_RX2_41 rfl (by decide) rfl hbs ?_
  refine zN_icmp_lt (tgt := 9) dX2_tryFlips_5 rfl rfl (by omega) (by omega) (fun h5 => ?_) (fun h5 => ?_)
  · refine zV_iload_n dX2_tryFlips_9 rfl 1 rfl rfl ?_
    refine zV_aload_n dX2_tryFlips_10 rfl 0 rfl rfl ?_
    refine zV_getI (x := (nI n)) 7 dX2_tryFlips_11 rfl fl_RX2_38 rfl (by decide) rfl hsz ?_
    refine zN_icmp_ge (tgt := 23) dX2_tryFlips_14 rfl rfl (by omega) (by omega) (fun _ => ?_) (fun z => absurd z (by omega))
    refine zV_aload_n dX2_tryFlips_23 rfl 0 rfl rfl ?_
    refine zV_aload_n dX2_tryFlips_24 rfl 0 rfl rfl ?_
    refine zV_getr (q' := 45) 0 dX2_tryFlips_25 rfl fl_RX2_13 rfl (by decide) rfl rfl ?_
    refine zV_iload_n dX2_tryFlips_28 rfl 1 rfl rfl ?_
    refine zV_aaloadA (q' := (46 + d)) d dX2_tryFlips_29 rfl rfl rfl (by omega) (by decide) (R_row (by omega)) ?_
    refine zV_callV (E' := eX2_hasAllWanted (g_rmv 0)) (av := [.ref (46 + d)]) (st := []) (b := 44) dX2_tryFlips_30 rfl (k_RX2_102 _) rfl ⟨by show 0 + 1 ≤ 1; omega, by show 8 + (3 + 11) + 60 * (0) ≤ 60 * (1); omega⟩ ⟨Nat.le_refl 0, Nat.le_refl 0⟩ (Or.inl rfl) rfl (Nat.le_of_ble_eq_true rfl) rfl rfl rfl (c_hasAll (q := 46 + d) (sh_row (by omega)) hW hwd hP hWt) (fun r30 M30 z => ?_)
    obtain ⟨rfl, rfl⟩ := z
    show zV G (eX2_tryFlips (g_rmv (0 + 1))) (0, 0) 33 [(0, .ref 44), (1, .int (nI d)), (2, .int (nI fl))] [.int (b2 (okw Wt W P = true))] (mm I J t) _
    refine zB_if_eq (tgt := 41) dX2_tryFlips_33 rfl rfl  (fun h33 => ?_) (fun h33 => ?_)
    · exact zV_return dX2_tryFlips_41 rfl (⟨I, J, rfl, rfl, by rw [hbs]; exact congrArg nI (by show best = min best (fl + (if okw Wt W P = true then 0 else 11264)); rw [if_neg h33]; omega), fun k hk => rfl, fun i hi => rfl, fun i hi => rfl⟩)
    · refine zV_aload_n dX2_tryFlips_36 rfl 0 rfl rfl ?_
      refine zV_iload_n dX2_tryFlips_37 rfl 2 rfl rfl ?_
      refine zV_puti 8 dX2_tryFlips_38 rfl fl_RX2_41 rfl (by decide) rfl rfl rfl ?_
      exact zV_return dX2_tryFlips_41 rfl (⟨_, J, rfl, rfl, by rw [up2_same]; exact congrArg nI (by show fl = min best (fl + (if okw Wt W P = true then 0 else 11264)); rw [if_pos h33]; omega), fun k hk => up2_nk hk, fun i hi => by funext k; exact up2_ni hi, fun i hi => rfl⟩)
  · exact zV_return dX2_tryFlips_8 rfl (⟨I, J, rfl, rfl, by rw [hbs]; exact congrArg nI (by omega), fun k hk => rfl, fun i hi => rfl, fun i hi => rfl⟩)

set_option maxRecDepth 100000 in
theorem c_tryS {G : mG} {I : Nat → Nat → Int32} {J : Nat → Nat → Int64} {t : Nat} {a nw ot : Nat → Nat} {n W d fl best : Nat} {P Wt : Nat → Bool} {m : Nat} (ih : tfA G a nw ot n W Wt m) (hH : tfH a nw ot n W Wt I J (m + 1) d fl best P) : zC G yX2_tryFlips (eX2_tryFlips (g_rmv (m + 2))) [.ref 44, .int (nI d), .int (nI fl)] (mm I J t) (tfQ a nw ot W Wt I J t (m + 1) d fl best P) := by
  refine zC_of (by decide +kernel) rfl (fun h => by cases h) (Nat.le_of_ble_eq_true rfl) ?_
  obtain ⟨hd, hn, hsz, hbs, hb, hwd, hW, harr, hfl, hP, hWt⟩ := hH
  have had := (harr d (by omega)).2.2.2
  have p9 : 2 ^ a d ≤ 512 := Nat.pow_le_pow_right (n := 2) (by decide) (show a d ≤ 9 by omega)
  show zV G (eX2_tryFlips (g_rmv (m + 2))) (0, 0) 0 [(0, .ref 44), (1, .int (nI d)), (2, .int (nI fl))] [] (mm I J t) _
  refine zV_iload_n dX2_tryFlips_0 rfl 2 rfl rfl ?_
  refine zV_aload_n dX2_tryFlips_1 rfl 0 rfl rfl ?_
  refine zV_getI (x := (nI best)) 8 dX2_tryFlips_2 rfl fl_RX2_41 rfl (by decide) rfl hbs ?_
  refine zN_icmp_lt (tgt := 9) dX2_tryFlips_5 rfl rfl (by omega) (by omega) (fun h5 => ?_) (fun h5 => ?_)
  · refine zV_iload_n dX2_tryFlips_9 rfl 1 rfl rfl ?_
    refine zV_aload_n dX2_tryFlips_10 rfl 0 rfl rfl ?_
    refine zV_getI (x := (nI n)) 7 dX2_tryFlips_11 rfl fl_RX2_38 rfl (by decide) rfl hsz ?_
    refine zN_icmp_ge (tgt := 23) dX2_tryFlips_14 rfl rfl (by omega) (by omega) (fun z => absurd z (by omega)) (fun _ => ?_)
    refine zV_iload_n dX2_tryFlips_17 rfl 1 rfl rfl ?_
    refine zV_bipush (v := (nI 10)) dX2_tryFlips_18 rfl rfl ?_
    refine zN_icmp_lt (tgt := 42) dX2_tryFlips_20 rfl rfl (by omega) (by omega) (fun _ => ?_) (fun z => absurd z (by omega))
    refine zV_aload_n dX2_tryFlips_42 rfl 0 rfl rfl ?_
    refine zV_aload_n dX2_tryFlips_43 rfl 0 rfl rfl ?_
    refine zV_getr (q' := 45) 0 dX2_tryFlips_44 rfl fl_RX2_13 rfl (by decide) rfl rfl ?_
    refine zV_iload_n dX2_tryFlips_47 rfl 1 rfl rfl ?_
    refine zV_aaloadA (q' := (46 + d)) d dX2_tryFlips_48 rfl rfl rfl (by omega) (by decide) (R_row (by omega)) ?_
    refine zV_aload_n dX2_tryFlips_49 rfl 0 rfl rfl ?_
    refine zV_getr (q' := 45) 0 dX2_tryFlips_50 rfl fl_RX2_13 rfl (by decide) rfl rfl ?_
    refine zV_iload_n dX2_tryFlips_53 rfl 1 rfl rfl ?_
    refine zV_iconst (v := (nI 1)) dX2_tryFlips_54 rfl rfl ?_
    refine zA_iadd (z := (nI (d + 1))) dX2_tryFlips_55 rfl  (nI_add _ _) ?_
    refine zV_aaloadA (q' := (46 + (d + 1))) (d + 1) dX2_tryFlips_56 rfl rfl rfl (by omega) (by decide) (R_row (by omega)) ?_
    refine zV_aload_n dX2_tryFlips_57 rfl 0 rfl rfl ?_
    refine zV_getr (q' := 59) 5 dX2_tryFlips_58 rfl fl_RX2_32 rfl (by decide) rfl rfl ?_
    refine zV_iload_n dX2_tryFlips_61 rfl 1 rfl rfl ?_
    refine zV_iald (x := (nI (nw (a d)))) d dX2_tryFlips_62 rfl rfl rfl (by omega) (by decide) ((harr d (by omega)).2.1) ?_
    refine zV_callV (E' := eX2_spread (g_rmv 0)) (av := [.ref (46 + d), .ref (46 + (d + 1)), .int (nI (nw (a d)))]) (st := []) (b := 44) dX2_tryFlips_63 rfl (k_RX2_66 _) rfl ⟨by show 0 + 1 ≤ m + 2; omega, by show 8 + (10 + 11) + 60 * (0) ≤ 60 * (m + 2); omega⟩ ⟨Nat.le_refl 0, Nat.le_refl 0⟩ (Or.inl rfl) rfl (Nat.le_of_ble_eq_true rfl) rfl rfl rfl (c_spread (a := 46 + d) (b := 46 + (d + 1)) (n := (nw (a d))) (W := W) (sh_row (by omega)) (sh_row (by omega)) (by omega) hW hwd) (fun r63 M63 z => ?_)
    obtain ⟨J63, rfl, rfl, hX63, hF63⟩ := z
    show zV G (eX2_tryFlips (g_rmv (m + 2))) (0, 0) 66 [(0, .ref 44), (1, .int (nI d)), (2, .int (nI fl))] [] (mm I J63 t) _
    refine zV_aload_n dX2_tryFlips_66 rfl 0 rfl rfl ?_
    refine zV_iload_n dX2_tryFlips_67 rfl 1 rfl rfl ?_
    refine zV_iconst (v := (nI 1)) dX2_tryFlips_68 rfl rfl ?_
    refine zA_iadd (z := (nI (d + 1))) dX2_tryFlips_69 rfl  (nI_add _ _) ?_
    refine zV_iload_n dX2_tryFlips_70 rfl 2 rfl rfl ?_
    refine zV_callS (E' := eX2_tryFlips (g_rmv (m + 1))) (av := [.ref 44, .int (nI (d + 1)), .int (nI fl)]) (st := []) dX2_tryFlips_71 rfl (k_RX2_98 _) rfl ⟨by show (m + 1) + 1 ≤ m + 2; omega, by show 8 + (3 + 11) + 60 * ((m + 1)) ≤ 60 * (m + 2); omega⟩ ⟨Nat.le_refl 0, Nat.le_refl 0⟩ (Or.inl rfl) rfl (Nat.le_of_ble_eq_true rfl) (ih I J63 t (d + 1) fl best (spr P (nw (a d))) ⟨by omega, hn, hsz, hbs, hb, hwd, hW, harr, by omega, fun k hk => by rw [spW_jb hX63 hk]; exact spr_cong hP hk, fun k hk => by rw [jb_row (hF63 57 (by omega))]; exact hWt k hk⟩) (fun r71 M71 z => ?_)
    obtain ⟨I71, J71, rfl, rfl, hb71, hk71, hi71, hj71⟩ := z
    show zV G (eX2_tryFlips (g_rmv (m + 2))) (0, 0) 74 [(0, .ref 44), (1, .int (nI d)), (2, .int (nI fl))] [] (mm I71 J71 t) _
    refine zV_aload_n dX2_tryFlips_74 rfl 0 rfl rfl ?_
    refine zV_getr (q' := 60) 6 dX2_tryFlips_75 rfl fl_RX2_35 rfl (by decide) rfl rfl ?_
    refine zV_iload_n dX2_tryFlips_78 rfl 1 rfl rfl ?_
    refine zV_iald (x := (nI (ot (a d)))) d dX2_tryFlips_79 rfl rfl rfl (by omega) (by decide) (by rw [hi71 60 (by decide)]; exact (harr d (by omega)).2.2.1) ?_
    refine zV_aload_n dX2_tryFlips_80 rfl 0 rfl rfl ?_
    refine zV_getr (q' := 59) 5 dX2_tryFlips_81 rfl fl_RX2_32 rfl (by decide) rfl rfl ?_
    refine zV_iload_n dX2_tryFlips_84 rfl 1 rfl rfl ?_
    refine zV_iald (x := (nI (nw (a d)))) d dX2_tryFlips_85 rfl rfl rfl (by omega) (by decide) (by rw [hi71 59 (by decide)]; exact (harr d (by omega)).2.1) ?_
    refine zN_icmp_eq (tgt := 134) dX2_tryFlips_86 rfl rfl (by omega) (by omega) (fun h86 => ?_) (fun h86 => ?_)
    · exact zV_return dX2_tryFlips_134 rfl (⟨I71, J71, rfl, rfl, by rw [hb71]; exact congrArg nI (by show _ = min best (fl + min (mn a nw ot (okw Wt W) m (d + 1) (spr P (nw (a d)))) (mn a nw ot (okw Wt W) m (d + 1) (spr P (ot (a d))) + (1024 + 2 ^ a d))); rw [h86, Nat.min_eq_left (Nat.le_add_right (mn a nw ot (okw Wt W) m (d + 1) (spr P (nw (a d)))) _)]), hk71, hi71, fun i hi => by rw [hj71 i (by omega), hF63 i (by omega)]⟩)
    · refine zV_aload_n dX2_tryFlips_89 rfl 0 rfl rfl ?_
      refine zV_aload_n dX2_tryFlips_90 rfl 0 rfl rfl ?_
      refine zV_getr (q' := 45) 0 dX2_tryFlips_91 rfl fl_RX2_13 rfl (by decide) rfl rfl ?_
      refine zV_iload_n dX2_tryFlips_94 rfl 1 rfl rfl ?_
      refine zV_aaloadA (q' := (46 + d)) d dX2_tryFlips_95 rfl rfl rfl (by omega) (by decide) (R_row (by omega)) ?_
      refine zV_aload_n dX2_tryFlips_96 rfl 0 rfl rfl ?_
      refine zV_getr (q' := 45) 0 dX2_tryFlips_97 rfl fl_RX2_13 rfl (by decide) rfl rfl ?_
      refine zV_iload_n dX2_tryFlips_100 rfl 1 rfl rfl ?_
      refine zV_iconst (v := (nI 1)) dX2_tryFlips_101 rfl rfl ?_
      refine zA_iadd (z := (nI (d + 1))) dX2_tryFlips_102 rfl  (nI_add _ _) ?_
      refine zV_aaloadA (q' := (46 + (d + 1))) (d + 1) dX2_tryFlips_103 rfl rfl rfl (by omega) (by decide) (R_row (by omega)) ?_
      refine zV_aload_n dX2_tryFlips_104 rfl 0 rfl rfl ?_
      refine zV_getr (q' := 60) 6 dX2_tryFlips_105 rfl fl_RX2_35 rfl (by decide) rfl rfl ?_
      refine zV_iload_n dX2_tryFlips_108 rfl 1 rfl rfl ?_
      refine zV_iald (x := (nI (ot (a d)))) d dX2_tryFlips_109 rfl rfl rfl (by omega) (by decide) (by rw [hi71 60 (by decide)]; exact (harr d (by omega)).2.2.1) ?_
      refine zV_callV (E' := eX2_spread (g_rmv 0)) (av := [.ref (46 + d), .ref (46 + (d + 1)), .int (nI (ot (a d)))]) (st := []) (b := 44) dX2_tryFlips_110 rfl (k_RX2_66 _) rfl ⟨by show 0 + 1 ≤ m + 2; omega, by show 8 + (10 + 11) + 60 * (0) ≤ 60 * (m + 2); omega⟩ ⟨Nat.le_refl 0, Nat.le_refl 0⟩ (Or.inl rfl) rfl (Nat.le_of_ble_eq_true rfl) rfl rfl rfl (c_spread (a := 46 + d) (b := 46 + (d + 1)) (n := (ot (a d))) (W := W) (sh_row (by omega)) (sh_row (by omega)) (by omega) hW ((hk71 3 (by decide)).trans hwd)) (fun r110 M110 z => ?_)
      obtain ⟨J110, rfl, rfl, hX110, hF110⟩ := z
      show zV G (eX2_tryFlips (g_rmv (m + 2))) (0, 0) 113 [(0, .ref 44), (1, .int (nI d)), (2, .int (nI fl))] [] (mm I71 J110 t) _
      refine zV_aload_n dX2_tryFlips_113 rfl 0 rfl rfl ?_
      refine zV_iload_n dX2_tryFlips_114 rfl 1 rfl rfl ?_
      refine zV_iconst (v := (nI 1)) dX2_tryFlips_115 rfl rfl ?_
      refine zA_iadd (z := (nI (d + 1))) dX2_tryFlips_116 rfl  (nI_add _ _) ?_
      refine zV_iload_n dX2_tryFlips_117 rfl 2 rfl rfl ?_
      refine zV_sipush (v := (nI 1024)) dX2_tryFlips_118 rfl rfl ?_
      refine zA_iadd (z := (nI (fl + 1024))) dX2_tryFlips_121 rfl  (nI_add _ _) ?_
      refine zV_iconst (v := (nI 1)) dX2_tryFlips_122 rfl rfl ?_
      refine zV_aload_n dX2_tryFlips_123 rfl 0 rfl rfl ?_
      refine zV_getr (q' := 58) 4 dX2_tryFlips_124 rfl fl_RX2_28 rfl (by decide) rfl rfl ?_
      refine zV_iload_n dX2_tryFlips_127 rfl 1 rfl rfl ?_
      refine zV_iald (x := (nI (a d))) d dX2_tryFlips_128 rfl rfl rfl (by omega) (by decide) (by rw [hi71 58 (by decide)]; exact (harr d (by omega)).1) ?_
      refine zA_ishl (z := (nI (2 ^ a d))) dX2_tryFlips_129 rfl  (z_shl1 (by omega)) ?_
      refine zA_iadd (z := (nI (fl + 1024 + 2 ^ a d))) dX2_tryFlips_130 rfl  (nI_add _ _) ?_
      refine zV_callS (E' := eX2_tryFlips (g_rmv (m + 1))) (av := [.ref 44, .int (nI (d + 1)), .int (nI (fl + 1024 + 2 ^ a d))]) (st := []) dX2_tryFlips_131 rfl (k_RX2_98 _) rfl ⟨by show (m + 1) + 1 ≤ m + 2; omega, by show 8 + (3 + 11) + 60 * ((m + 1)) ≤ 60 * (m + 2); omega⟩ ⟨Nat.le_refl 0, Nat.le_refl 0⟩ (Or.inl rfl) rfl (Nat.le_of_ble_eq_true rfl) (ih I71 J110 t (d + 1) (fl + 1024 + 2 ^ a d) (min best (fl + mn a nw ot (okw Wt W) m (d + 1) (spr P (nw (a d))))) (spr P (ot (a d))) ⟨by omega, hn, (hk71 7 (by decide)).trans hsz, hb71, by omega, (hk71 3 (by decide)).trans hwd, hW, fun i hi => by rw [hi71 58 (by decide), hi71 59 (by decide), hi71 60 (by decide)]; exact harr i hi, by omega, fun k hk => by rw [spW_jb hX110 hk]; exact spr_cong (fun j hj => by rw [jb_row (hj71 (46 + d) (by omega)), jb_row (hF63 (46 + d) (by omega))]; exact hP j hj) hk, fun k hk => by rw [jb_row (hF110 57 (by omega)), jb_row (hj71 57 (by omega)), jb_row (hF63 57 (by omega))]; exact hWt k hk⟩) (fun r131 M131 z => ?_)
      obtain ⟨I131, J131, rfl, rfl, hb131, hk131, hi131, hj131⟩ := z
      show zV G (eX2_tryFlips (g_rmv (m + 2))) (0, 0) 134 [(0, .ref 44), (1, .int (nI d)), (2, .int (nI fl))] [] (mm I131 J131 t) _
      exact zV_return dX2_tryFlips_134 rfl (⟨I131, J131, rfl, rfl, by rw [hb131]; exact congrArg nI (by show _ = min best (fl + min (mn a nw ot (okw Wt W) m (d + 1) (spr P (nw (a d)))) (mn a nw ot (okw Wt W) m (d + 1) (spr P (ot (a d))) + (1024 + 2 ^ a d))); omega), fun k hk => (hk131 k hk).trans (hk71 k hk), fun i hi => (hi131 i hi).trans (hi71 i hi), fun i hi => by rw [hj131 i (by omega), hF110 i (by omega), hj71 i (by omega), hF63 i (by omega)]⟩)
  · exact zV_return dX2_tryFlips_8 rfl (⟨I, J, rfl, rfl, by rw [hbs]; exact congrArg nI (by omega), fun k hk => rfl, fun i hi => rfl, fun i hi => rfl⟩)

theorem c_try {G : mG} {a nw ot : Nat → Nat} {n W : Nat} {Wt : Nat → Bool} : ∀ m, tfA G a nw ot n W Wt m
  | 0 => fun _ _ _ _ _ _ _ h => c_try0 h
  | m + 1 => fun _ _ _ _ _ _ _ h => c_tryS (c_try m) h