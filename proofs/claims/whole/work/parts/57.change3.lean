/-! gain, lot, deal, deals, partner: both classes -/
def op_gain (S : aS) (x y : Int32) : Int32 × aS := if twoP x y then (match ld_chg S.1 (tn x) (tn y) with
  | none => fnd S 3
  | some b => (nI (gnN S.1 (tn x) (tn y) b), S)) else fnd S 0
def op_lot (S : aS) (x y : Int32) : Int32 × aS := if twoP x y then (match ld_chg S.1 (tn x) (tn y) with
  | none => fnd S 3
  | some b => (nI (gv S.1 (tn x) b), S)) else fnd S 0
def op_deal (S : aS) (x y : Int32) : Int32 × aS := if twoP x y then (match ld_chg S.1 (tn x) (tn y) with
  | none => fnd S 3
  | some b => (nI (gnN S.1 (tn x) (tn y) b), st_l S (ld_swap S.1 (tn x) (tn y) b))) else fnd S 0
def dl (p q : Nat) (σ : aL) : Nat → Option aL
  | 0 => some σ
  | i + 1 => match dl p q σ i with
    | none => none
    | some τ => (match ld_chg τ p q with
      | none => none
      | some b => some (ld_swap τ p q b))
theorem dl_none {p q i : Nat} {σ τ : aL} (h : dl p q σ i = some τ) (e : ld_chg τ p q = none) : dl p q σ (i + 1) = none := by
  show (match dl p q σ i with | none => none | some τ => (match ld_chg τ p q with | none => none | some b => some (ld_swap τ p q b))) = none
  rw [h]
  show (match ld_chg τ p q with | none => none | some b => some (ld_swap τ p q b)) = none
  rw [e]
theorem dl_some {p q i b : Nat} {σ τ : aL} (h : dl p q σ i = some τ) (e : ld_chg τ p q = some b) : dl p q σ (i + 1) = some (ld_swap τ p q b) := by
  show (match dl p q σ i with | none => none | some τ => (match ld_chg τ p q with | none => none | some b => some (ld_swap τ p q b))) = _
  rw [h]
  show (match ld_chg τ p q with | none => none | some b => some (ld_swap τ p q b)) = _
  rw [e]
def dln (p q : Nat) (σ : aL) : Nat := fa_first (fun i => (dl p q σ (i + 1)).isNone) 20
theorem dln_at {p q c : Nat} {σ : aL} (hc : c < 20) (h : ∀ i, i < c → (dl p q σ (i + 1)).isNone = false) (hy : dl p q σ (c + 1) = none) : dln p q σ = c := fst_is hc h (by rw [hy]; rfl)
theorem dln_end {p q : Nat} {σ : aL} (h : ∀ i, i < 20 → (dl p q σ (i + 1)).isNone = false) : dln p q σ = 20 := by
  have h1 := fst_no h
  have h2 := fa_first_le (fun i => (dl p q σ (i + 1)).isNone) 20
  unfold dln
  omega
def op_deals (S : aS) (x y : Int32) : Int32 × aS := if twoP x y then (nI (dln (tn x) (tn y) S.1), S) else fnd S 0
def pgn (σ : aL) (p q : Nat) : Nat := if q = p then 0 else mst σ p q (ld_chg σ p q)
def pt (σ : aL) (p : Nat) : Nat → Option Nat × Nat
  | 0 => (none, 0)
  | q + 1 => if (pt σ p q).2 < pgn σ p q then (some q, pgn σ p q) else pt σ p q
theorem pt_t {σ : aL} {p q : Nat} (h : (pt σ p q).2 < pgn σ p q) : pt σ p (q + 1) = (some q, pgn σ p q) := if_pos h
theorem pt_f {σ : aL} {p q : Nat} (h : ¬ (pt σ p q).2 < pgn σ p q) : pt σ p (q + 1) = pt σ p q := if_neg h
theorem pgn_le {B : Nat} {σ : aL} (h : wfL B σ) (p q : Nat) : pgn σ p q ≤ 2000 := by
  unfold pgn
  split
  · omega
  · cases ld_chg σ p q with
    | none => exact Nat.zero_le _
    | some b => exact gnN_le h p q b
theorem pt_le {B : Nat} {σ : aL} (h : wfL B σ) (p : Nat) : ∀ q, (pt σ p q).2 ≤ 2000
  | 0 => Nat.zero_le _
  | q + 1 => by
    by_cases e : (pt σ p q).2 < pgn σ p q
    · rw [pt_t e]; exact pgn_le h p q
    · rw [pt_f e]; exact pt_le h p q
theorem pt_lt {σ : aL} {p b : Nat} : ∀ q, (pt σ p q).1 = some b → b < q
  | 0, h => by cases h
  | q + 1, h => by
    by_cases e : (pt σ p q).2 < pgn σ p q
    · rw [pt_t e] at h; cases h; omega
    · rw [pt_f e] at h; have := pt_lt q h; omega
theorem pgn_no {σ : aL} {p q : Nat} (hpq : q ≠ p) (h : ld_chg σ p q = none) : pgn σ p q = 0 := by
  unfold pgn
  rw [if_neg hpq, h]
  rfl
theorem pgn_yes {σ : aL} {p q b : Nat} (hpq : q ≠ p) (h : ld_chg σ p q = some b) : pgn σ p q = gnN σ p q b := by
  unfold pgn
  rw [if_neg hpq, h]
  rfl
theorem pgn_self {σ : aL} {p q : Nat} (h : q = p) : pgn σ p q = 0 := if_pos h
theorem chg_pos {σ : aL} {p q b : Nat} (h : ld_chg σ p q = some b) : 0 < gnN σ p q b := (fo_bst _ _ h).2.2
def op_partner (S : aS) (x : Int32) : Int32 × aS := if inR x 3 then (match (pt S.1 (tn x) 4).1 with
  | none => fnd S 3
  | some q => (nI q, S)) else fnd S 0
set_option maxRecDepth 100000 in
theorem c_sc0 {G : mG} {I : Nat → Nat → Int32} {J : Nat → Nat → Int64} {t : Nat} {x y : Int32} (h : ¬ twoP x y) : zC G yX6_seekChange (eX6_seekChange (g_rmv 5)) [.ref 0, .int x, .int y] (mm I J t) (fun r M => r = some (.int (-1000001)) ∧ M = mm I J t) := by
  refine zC_of (by decide +kernel) rfl (by decide) (Nat.le_of_ble_eq_true rfl) ?_
  show zV G (eX6_seekChange (g_rmv 5)) (0, 0) 0 [(0, .ref 0), (1, .int x), (2, .int y)] [] (mm I J t) _
  refine zV_iload_n dX6_seekChange_0 rfl 1 rfl rfl ?_
  refine zV_iload_n dX6_seekChange_1 rfl 2 rfl rfl ?_
  refine zV_callS (E' := eX6_areTwoPurses (g_rmv 2)) (av := [.int x, .int y]) (st := []) dX6_seekChange_2 rfl (k_RX6_142 _) rfl ⟨by decide, by decide⟩ ⟨by decide, by decide⟩ (Or.inl rfl) rfl (Nat.le_of_ble_eq_true rfl) (c_two (x := x) (y := y)) (fun r2 M2 z => ?_)
  obtain ⟨rfl, rfl⟩ := z
  show zV G (eX6_seekChange (g_rmv 5)) (0, 0) 5 [(0, .ref 0), (1, .int x), (2, .int y)] [.int (b2 (twoP x y))] (mm I J t) _
  refine zB_if_ne (tgt := 11) dX6_seekChange_5 rfl rfl  (fun z => absurd z h) (fun _ => ?_)
  refine zV_ldc (v := (-1000001)) dX6_seekChange_8 rfl tw264 ?_
  exact zV_ireturn dX6_seekChange_10 rfl rfl (⟨rfl, rfl⟩)

set_option maxRecDepth 100000 in
theorem c_sc3 {G : mG} {I : Nat → Nat → Int32} {J : Nat → Nat → Int64} {t : Nat} {B : Nat} {S : aS} (hC : InvC I S) (hw : wfS B S) {p q : Nat} (hp : p < 4) (hq : q < 4) (hpq : p ≠ q) (eo : ld_chg S.1 p q = none) : zC G yX6_seekChange (eX6_seekChange (g_rmv 5)) [.ref 0, .int (nI p), .int (nI q)] (mm I J t) (fun r M => ∃ I', r = some (.int (-1000004)) ∧ M = mm I' J t ∧ ∀ i, (i < 61 ∨ 66 < i) → I' i = I i) := by
  refine zC_of (by decide +kernel) rfl (by decide) (Nat.le_of_ble_eq_true rfl) ?_
  show zV G (eX6_seekChange (g_rmv 5)) (0, 0) 0 [(0, .ref 0), (1, .int (nI p)), (2, .int (nI q))] [] (mm I J t) _
  refine zV_iload_n dX6_seekChange_0 rfl 1 rfl rfl ?_
  refine zV_iload_n dX6_seekChange_1 rfl 2 rfl rfl ?_
  refine zV_callS (E' := eX6_areTwoPurses (g_rmv 2)) (av := [.int (nI p), .int (nI q)]) (st := []) dX6_seekChange_2 rfl (k_RX6_142 _) rfl ⟨by decide, by decide⟩ ⟨by decide, by decide⟩ (Or.inl rfl) rfl (Nat.le_of_ble_eq_true rfl) (c_two (x := (nI p)) (y := (nI q))) (fun r2 M2 z => ?_)
  obtain ⟨rfl, rfl⟩ := z
  show zV G (eX6_seekChange (g_rmv 5)) (0, 0) 5 [(0, .ref 0), (1, .int (nI p)), (2, .int (nI q))] [.int (b2 (twoP (nI p) (nI q)))] (mm I J t) _
  refine zB_if_ne (tgt := 11) dX6_seekChange_5 rfl rfl  (fun _ => ?_) (fun z => absurd z (fun z => z (twoP_mk (by omega) (by omega) hpq)))
  refine zV_aload_n dX6_seekChange_11 rfl 0 rfl rfl ?_
  refine zV_getr (q' := 61) 9 dX6_seekChange_12 rfl fl_RX6_57 rfl (by decide) rfl rfl ?_
  refine zV_aload_n dX6_seekChange_15 rfl 0 rfl rfl ?_
  refine zV_getr (q' := 1) 0 dX6_seekChange_16 rfl fl_RX6_12 rfl (by decide) rfl rfl ?_
  refine zV_iload_n dX6_seekChange_19 rfl 1 rfl rfl ?_
  refine zV_iload_n dX6_seekChange_20 rfl 2 rfl rfl ?_
  refine zV_callV (E' := eX5_findChange (g_rmv 4)) (av := [.ref 1, .int (nI p), .int (nI q)]) (st := []) (b := 61) dX6_seekChange_21 rfl (k_RX6_195 _) rfl ⟨by decide, by decide⟩ ⟨by decide, by decide⟩ (Or.inl rfl) rfl (Nat.le_of_ble_eq_true rfl) rfl rfl rfl (c_findChange (p := p) (q := q) (Or.inl rfl) hC.1 hw.1 hp hq hpq) (fun r21 M21 z => ?_)
  obtain ⟨I32, rfl, rfl, hF32, hB32⟩ := z
  rw [eo]
  show zV G (eX6_seekChange (g_rmv 5)) (0, 0) 24 [(0, .ref 0), (1, .int (nI p)), (2, .int (nI q))] [.int (nI 0)] (mm I32 J t) _
  refine zN_if_eq (tgt := 31) dX6_seekChange_24 rfl rfl (by decide) (fun _ => ?_) (fun z => absurd z (by decide))
  refine zV_ldc (v := (-1000004)) dX6_seekChange_31 rfl tw424 ?_
  exact zV_ireturn dX6_seekChange_33 rfl rfl (⟨_, rfl, rfl, hF32⟩)

set_option maxRecDepth 100000 in
theorem c_scF {G : mG} {I : Nat → Nat → Int32} {J : Nat → Nat → Int64} {t : Nat} {B : Nat} {S : aS} (hC : InvC I S) (hw : wfS B S) {p q : Nat} (hp : p < 4) (hq : q < 4) (hpq : p ≠ q) {bb : Nat} (eo : ld_chg S.1 p q = some bb) : zC G yX6_seekChange (eX6_seekChange (g_rmv 5)) [.ref 0, .int (nI p), .int (nI q)] (mm I J t) (fun r M => ∃ I', r = some (.int (nI 0)) ∧ M = mm I' J t ∧ (∀ i, (i < 61 ∨ 66 < i) → I' i = I i) ∧ I' 61 6 = nI (gv S.1 p bb) ∧ I' 61 7 = nI (gv S.1 q bb) ∧ I' 61 8 = nI (gnN S.1 p q bb)) := by
  refine zC_of (by decide +kernel) rfl (by decide) (Nat.le_of_ble_eq_true rfl) ?_
  show zV G (eX6_seekChange (g_rmv 5)) (0, 0) 0 [(0, .ref 0), (1, .int (nI p)), (2, .int (nI q))] [] (mm I J t) _
  refine zV_iload_n dX6_seekChange_0 rfl 1 rfl rfl ?_
  refine zV_iload_n dX6_seekChange_1 rfl 2 rfl rfl ?_
  refine zV_callS (E' := eX6_areTwoPurses (g_rmv 2)) (av := [.int (nI p), .int (nI q)]) (st := []) dX6_seekChange_2 rfl (k_RX6_142 _) rfl ⟨by decide, by decide⟩ ⟨by decide, by decide⟩ (Or.inl rfl) rfl (Nat.le_of_ble_eq_true rfl) (c_two (x := (nI p)) (y := (nI q))) (fun r2 M2 z => ?_)
  obtain ⟨rfl, rfl⟩ := z
  show zV G (eX6_seekChange (g_rmv 5)) (0, 0) 5 [(0, .ref 0), (1, .int (nI p)), (2, .int (nI q))] [.int (b2 (twoP (nI p) (nI q)))] (mm I J t) _
  refine zB_if_ne (tgt := 11) dX6_seekChange_5 rfl rfl  (fun _ => ?_) (fun z => absurd z (fun z => z (twoP_mk (by omega) (by omega) hpq)))
  refine zV_aload_n dX6_seekChange_11 rfl 0 rfl rfl ?_
  refine zV_getr (q' := 61) 9 dX6_seekChange_12 rfl fl_RX6_57 rfl (by decide) rfl rfl ?_
  refine zV_aload_n dX6_seekChange_15 rfl 0 rfl rfl ?_
  refine zV_getr (q' := 1) 0 dX6_seekChange_16 rfl fl_RX6_12 rfl (by decide) rfl rfl ?_
  refine zV_iload_n dX6_seekChange_19 rfl 1 rfl rfl ?_
  refine zV_iload_n dX6_seekChange_20 rfl 2 rfl rfl ?_
  refine zV_callV (E' := eX5_findChange (g_rmv 4)) (av := [.ref 1, .int (nI p), .int (nI q)]) (st := []) (b := 61) dX6_seekChange_21 rfl (k_RX6_195 _) rfl ⟨by decide, by decide⟩ ⟨by decide, by decide⟩ (Or.inl rfl) rfl (Nat.le_of_ble_eq_true rfl) rfl rfl rfl (c_findChange (p := p) (q := q) (Or.inl rfl) hC.1 hw.1 hp hq hpq) (fun r21 M21 z => ?_)
  obtain ⟨I32, rfl, rfl, hF32, hB32⟩ := z
  rw [eo]
  show zV G (eX6_seekChange (g_rmv 5)) (0, 0) 24 [(0, .ref 0), (1, .int (nI p)), (2, .int (nI q))] [.int (nI 1)] (mm I32 J t) _
  refine zN_if_eq (tgt := 31) dX6_seekChange_24 rfl rfl (by decide) (fun z => absurd z (by decide)) (fun _ => ?_)
  refine zV_iconst (v := (nI 0)) dX6_seekChange_27 rfl rfl ?_
  refine zV_goto (tgt := 33) dX6_seekChange_28 rfl ?_
  exact zV_ireturn dX6_seekChange_33 rfl rfl (⟨_, rfl, rfl, hF32, hB32 bb eo⟩)

set_option maxRecDepth 100000 in
theorem p_gain {G : mG} {I : Nat → Nat → Int32} {J : Nat → Nat → Int64} {t : Nat} {B : Nat} {S : aS} (hC : InvC I S) (hw : wfS B S) {x y : Int32} : zC G yX6_gain (eX6_gain (g_rmv 6)) [.ref 0, .int x, .int y] (mm I J t) (fun r M => PC I (op_gain S x y) r M) := by
  refine zC_of (by decide +kernel) rfl (by decide) (Nat.le_of_ble_eq_true rfl) ?_
  have n10 := hw.1.1
  show zV G (eX6_gain (g_rmv 6)) (0, 0) 0 [(0, .ref 0), (1, .int x), (2, .int y)] [] (mm I J t) _
  by_cases h0 : twoP x y
  · obtain ⟨p, q, hp, hq, hpq, rfl, rfl⟩ := z_two h0
    cases eo : ld_chg S.1 p q with
    | none =>
      show zV G (eX6_gain (g_rmv 6)) (0, 0) 0 [(0, .ref 0), (1, .int (nI p)), (2, .int (nI q))] [] (mm I J t) _
      refine zV_aload_n dX6_gain_0 rfl 0 rfl rfl ?_
      refine zV_iload_n dX6_gain_1 rfl 1 rfl rfl ?_
      refine zV_iload_n dX6_gain_2 rfl 2 rfl rfl ?_
      refine zV_callV (E' := eX6_seekChange (g_rmv 5)) (av := [.int (nI p), .int (nI q)]) (st := []) (b := 0) dX6_gain_3 rfl (k_RX6_188 _) rfl ⟨by decide, by decide⟩ ⟨by decide, by decide⟩ (Or.inl rfl) rfl (Nat.le_of_ble_eq_true rfl) rfl rfl rfl (c_sc3 hC hw hp hq hpq eo) (fun r3 M3 z => ?_)
      obtain ⟨I4, rfl, rfl, hF4⟩ := z
      show zV G (eX6_gain (g_rmv 6)) (0, 0) 6 [(0, .ref 0), (1, .int (nI p)), (2, .int (nI q))] [.int (-1000004)] (mm I4 J t) _
      refine zV_istore_n (lv' := [(0, .ref 0), (1, .int (nI p)), (2, .int (nI q)), (3, .int (-1000004))]) dX6_gain_6 rfl rfl (by decide) rfl ?_
      refine zV_iload_n dX6_gain_7 rfl 3 rfl rfl ?_
      refine zV_if_ne (tgt := 21) dX6_gain_8 rfl rfl  (fun _ => ?_) (fun z => absurd z (by decide))
      refine zV_aload_n dX6_gain_21 rfl 0 rfl rfl ?_
      refine zV_iload_n dX6_gain_22 rfl 3 rfl rfl ?_
      refine zV_callV (E' := eX6_tell (g_rmv 1)) (av := [.int (-1000004)]) (st := []) (b := 0) dX6_gain_23 rfl (k_RX6_70 _) rfl ⟨by decide, by decide⟩ ⟨by decide, by decide⟩ (Or.inl rfl) rfl (Nat.le_of_ble_eq_true rfl) rfl rfl rfl (c_tell (w := 3) (by decide) (by decide)) (fun r23 M23 z => ?_)
      obtain ⟨rfl, rfl⟩ := z
      show zV G (eX6_gain (g_rmv 6)) (0, 0) 26 [(0, .ref 0), (1, .int (nI p)), (2, .int (nI q)), (3, .int (-1000004))] [.int (fdg 3)] (mm (up2 I4 67 3 (I4 67 3 + nI 1)) J t) _
      exact zV_ireturn dX6_gain_26 rfl rfl (PC.tell (hC.mv hw (fun i a _ => hF4 i (by unfold scr at a; omega))) hw (by unfold op_gain; rw [if_pos h0, tn_nI (show p < 2 ^ 31 by omega), tn_nI (show q < 2 ^ 31 by omega), eo]) (fun i hi => hF4 i (by omega)))
    | some bb =>
      have g1 := gv_lt n10 p bb
      have g2 := gv_lt n10 q bb
      have gn1 := gnN_le hw.1 p q bb
      have gp := chg_pos eo
      show zV G (eX6_gain (g_rmv 6)) (0, 0) 0 [(0, .ref 0), (1, .int (nI p)), (2, .int (nI q))] [] (mm I J t) _
      refine zV_aload_n dX6_gain_0 rfl 0 rfl rfl ?_
      refine zV_iload_n dX6_gain_1 rfl 1 rfl rfl ?_
      refine zV_iload_n dX6_gain_2 rfl 2 rfl rfl ?_
      refine zV_callV (E' := eX6_seekChange (g_rmv 5)) (av := [.int (nI p), .int (nI q)]) (st := []) (b := 0) dX6_gain_3 rfl (k_RX6_188 _) rfl ⟨by decide, by decide⟩ ⟨by decide, by decide⟩ (Or.inl rfl) rfl (Nat.le_of_ble_eq_true rfl) rfl rfl rfl (c_scF hC hw hp hq hpq eo) (fun r3 M3 z => ?_)
      obtain ⟨I4, rfl, rfl, hF4, hG4, hK4, hC4⟩ := z
      show zV G (eX6_gain (g_rmv 6)) (0, 0) 6 [(0, .ref 0), (1, .int (nI p)), (2, .int (nI q))] [.int (nI 0)] (mm I4 J t) _
      refine zV_istore_n (lv' := [(0, .ref 0), (1, .int (nI p)), (2, .int (nI q)), (3, .int (nI 0))]) dX6_gain_6 rfl rfl (by decide) rfl ?_
      refine zV_iload_n dX6_gain_7 rfl 3 rfl rfl ?_
      refine zN_if_ne (tgt := 21) dX6_gain_8 rfl rfl (by decide) (fun z => absurd z (by decide)) (fun _ => ?_)
      refine zV_aload_n dX6_gain_11 rfl 0 rfl rfl ?_
      refine zV_getr (q' := 61) 9 dX6_gain_12 rfl fl_RX6_57 rfl (by decide) rfl rfl ?_
      refine zV_getI (x := (nI (gnN S.1 p q bb))) 8 dX6_gain_15 rfl fl_RX6_171 rfl (by decide) rfl hC4 ?_
      refine zV_goto (tgt := 26) dX6_gain_18 rfl ?_
      exact zV_ireturn dX6_gain_26 rfl rfl (PC.same hC hw (by unfold op_gain; rw [if_pos h0, tn_nI (show p < 2 ^ 31 by omega), tn_nI (show q < 2 ^ 31 by omega), eo]) (fun i hi => hF4 i (by unfold scr at hi; omega)))
  · show zV G (eX6_gain (g_rmv 6)) (0, 0) 0 [(0, .ref 0), (1, .int x), (2, .int y)] [] (mm I J t) _
    refine zV_aload_n dX6_gain_0 rfl 0 rfl rfl ?_
    refine zV_iload_n dX6_gain_1 rfl 1 rfl rfl ?_
    refine zV_iload_n dX6_gain_2 rfl 2 rfl rfl ?_
    refine zV_callV (E' := eX6_seekChange (g_rmv 5)) (av := [.int x, .int y]) (st := []) (b := 0) dX6_gain_3 rfl (k_RX6_188 _) rfl ⟨by decide, by decide⟩ ⟨by decide, by decide⟩ (Or.inl rfl) rfl (Nat.le_of_ble_eq_true rfl) rfl rfl rfl (c_sc0 h0) (fun r3 M3 z => ?_)
    obtain ⟨rfl, rfl⟩ := z
    show zV G (eX6_gain (g_rmv 6)) (0, 0) 6 [(0, .ref 0), (1, .int x), (2, .int y)] [.int (-1000001)] (mm I J t) _
    refine zV_istore_n (lv' := [(0, .ref 0), (1, .int x), (2, .int y), (3, .int (-1000001))]) dX6_gain_6 rfl rfl (by decide) rfl ?_
    refine zV_iload_n dX6_gain_7 rfl 3 rfl rfl ?_
    refine zV_if_ne (tgt := 21) dX6_gain_8 rfl rfl  (fun _ => ?_) (fun z => absurd z (by decide))
    refine zV_aload_n dX6_gain_21 rfl 0 rfl rfl ?_
    refine zV_iload_n dX6_gain_22 rfl 3 rfl rfl ?_
    refine zV_callV (E' := eX6_tell (g_rmv 1)) (av := [.int (-1000001)]) (st := []) (b := 0) dX6_gain_23 rfl (k_RX6_70 _) rfl ⟨by decide, by decide⟩ ⟨by decide, by decide⟩ (Or.inl rfl) rfl (Nat.le_of_ble_eq_true rfl) rfl rfl rfl (c_tell (w := 0) (by decide) (by decide)) (fun r23 M23 z => ?_)
    obtain ⟨rfl, rfl⟩ := z
    show zV G (eX6_gain (g_rmv 6)) (0, 0) 26 [(0, .ref 0), (1, .int x), (2, .int y), (3, .int (-1000001))] [.int (fdg 0)] (mm (up2 I 67 0 (I 67 0 + nI 1)) J t) _
    exact zV_ireturn dX6_gain_26 rfl rfl (PC.tell hC hw (by unfold op_gain; rw [if_neg h0]) (fun _ _ => rfl))

set_option maxRecDepth 100000 in
theorem p_lot {G : mG} {I : Nat → Nat → Int32} {J : Nat → Nat → Int64} {t : Nat} {B : Nat} {S : aS} (hC : InvC I S) (hw : wfS B S) {x y : Int32} : zC G yX6_lot (eX6_lot (g_rmv 6)) [.ref 0, .int x, .int y] (mm I J t) (fun r M => PC I (op_lot S x y) r M) := by
  refine zC_of (by decide +kernel) rfl (by decide) (Nat.le_of_ble_eq_true rfl) ?_
  have n10 := hw.1.1
  show zV G (eX6_lot (g_rmv 6)) (0, 0) 0 [(0, .ref 0), (1, .int x), (2, .int y)] [] (mm I J t) _
  by_cases h0 : twoP x y
  · obtain ⟨p, q, hp, hq, hpq, rfl, rfl⟩ := z_two h0
    cases eo : ld_chg S.1 p q with
    | none =>
      show zV G (eX6_lot (g_rmv 6)) (0, 0) 0 [(0, .ref 0), (1, .int (nI p)), (2, .int (nI q))] [] (mm I J t) _
      refine zV_aload_n dX6_lot_0 rfl 0 rfl rfl ?_
      refine zV_iload_n dX6_lot_1 rfl 1 rfl rfl ?_
      refine zV_iload_n dX6_lot_2 rfl 2 rfl rfl ?_
      refine zV_callV (E' := eX6_seekChange (g_rmv 5)) (av := [.int (nI p), .int (nI q)]) (st := []) (b := 0) dX6_lot_3 rfl (k_RX6_188 _) rfl ⟨by decide, by decide⟩ ⟨by decide, by decide⟩ (Or.inl rfl) rfl (Nat.le_of_ble_eq_true rfl) rfl rfl rfl (c_sc3 hC hw hp hq hpq eo) (fun r3 M3 z => ?_)
      obtain ⟨I4, rfl, rfl, hF4⟩ := z
      show zV G (eX6_lot (g_rmv 6)) (0, 0) 6 [(0, .ref 0), (1, .int (nI p)), (2, .int (nI q))] [.int (-1000004)] (mm I4 J t) _
      refine zV_istore_n (lv' := [(0, .ref 0), (1, .int (nI p)), (2, .int (nI q)), (3, .int (-1000004))]) dX6_lot_6 rfl rfl (by decide) rfl ?_
      refine zV_iload_n dX6_lot_7 rfl 3 rfl rfl ?_
      refine zV_if_ne (tgt := 21) dX6_lot_8 rfl rfl  (fun _ => ?_) (fun z => absurd z (by decide))
      refine zV_aload_n dX6_lot_21 rfl 0 rfl rfl ?_
      refine zV_iload_n dX6_lot_22 rfl 3 rfl rfl ?_
      refine zV_callV (E' := eX6_tell (g_rmv 1)) (av := [.int (-1000004)]) (st := []) (b := 0) dX6_lot_23 rfl (k_RX6_70 _) rfl ⟨by decide, by decide⟩ ⟨by decide, by decide⟩ (Or.inl rfl) rfl (Nat.le_of_ble_eq_true rfl) rfl rfl rfl (c_tell (w := 3) (by decide) (by decide)) (fun r23 M23 z => ?_)
      obtain ⟨rfl, rfl⟩ := z
      show zV G (eX6_lot (g_rmv 6)) (0, 0) 26 [(0, .ref 0), (1, .int (nI p)), (2, .int (nI q)), (3, .int (-1000004))] [.int (fdg 3)] (mm (up2 I4 67 3 (I4 67 3 + nI 1)) J t) _
      exact zV_ireturn dX6_lot_26 rfl rfl (PC.tell (hC.mv hw (fun i a _ => hF4 i (by unfold scr at a; omega))) hw (by unfold op_lot; rw [if_pos h0, tn_nI (show p < 2 ^ 31 by omega), tn_nI (show q < 2 ^ 31 by omega), eo]) (fun i hi => hF4 i (by omega)))
    | some bb =>
      have g1 := gv_lt n10 p bb
      have g2 := gv_lt n10 q bb
      have gn1 := gnN_le hw.1 p q bb
      have gp := chg_pos eo
      show zV G (eX6_lot (g_rmv 6)) (0, 0) 0 [(0, .ref 0), (1, .int (nI p)), (2, .int (nI q))] [] (mm I J t) _
      refine zV_aload_n dX6_lot_0 rfl 0 rfl rfl ?_
      refine zV_iload_n dX6_lot_1 rfl 1 rfl rfl ?_
      refine zV_iload_n dX6_lot_2 rfl 2 rfl rfl ?_
      refine zV_callV (E' := eX6_seekChange (g_rmv 5)) (av := [.int (nI p), .int (nI q)]) (st := []) (b := 0) dX6_lot_3 rfl (k_RX6_188 _) rfl ⟨by decide, by decide⟩ ⟨by decide, by decide⟩ (Or.inl rfl) rfl (Nat.le_of_ble_eq_true rfl) rfl rfl rfl (c_scF hC hw hp hq hpq eo) (fun r3 M3 z => ?_)
      obtain ⟨I4, rfl, rfl, hF4, hG4, hK4, hC4⟩ := z
      show zV G (eX6_lot (g_rmv 6)) (0, 0) 6 [(0, .ref 0), (1, .int (nI p)), (2, .int (nI q))] [.int (nI 0)] (mm I4 J t) _
      refine zV_istore_n (lv' := [(0, .ref 0), (1, .int (nI p)), (2, .int (nI q)), (3, .int (nI 0))]) dX6_lot_6 rfl rfl (by decide) rfl ?_
      refine zV_iload_n dX6_lot_7 rfl 3 rfl rfl ?_
      refine zN_if_ne (tgt := 21) dX6_lot_8 rfl rfl (by decide) (fun z => absurd z (by decide)) (fun _ => ?_)
      refine zV_aload_n dX6_lot_11 rfl 0 rfl rfl ?_
      refine zV_getr (q' := 61) 9 dX6_lot_12 rfl fl_RX6_57 rfl (by decide) rfl rfl ?_
      refine zV_getI (x := (nI (gv S.1 p bb))) 6 dX6_lot_15 rfl fl_RX6_174 rfl (by decide) rfl hG4 ?_
      refine zV_goto (tgt := 26) dX6_lot_18 rfl ?_
      exact zV_ireturn dX6_lot_26 rfl rfl (PC.same hC hw (by unfold op_lot; rw [if_pos h0, tn_nI (show p < 2 ^ 31 by omega), tn_nI (show q < 2 ^ 31 by omega), eo]) (fun i hi => hF4 i (by unfold scr at hi; omega)))
  · show zV G (eX6_lot (g_rmv 6)) (0, 0) 0 [(0, .ref 0), (1, .int x), (2, .int y)] [] (mm I J t) _
    refine zV_aload_n dX6_lot_0 rfl 0 rfl rfl ?_
    refine zV_iload_n dX6_lot_1 rfl 1 rfl rfl ?_
    refine zV_iload_n dX6_lot_2 rfl 2 rfl rfl ?_
    refine zV_callV (E' := eX6_seekChange (g_rmv 5)) (av := [.int x, .int y]) (st := []) (b := 0) dX6_lot_3 rfl (k_RX6_188 _) rfl ⟨by decide, by decide⟩ ⟨by decide, by decide⟩ (Or.inl rfl) rfl (Nat.le_of_ble_eq_true rfl) rfl rfl rfl (c_sc0 h0) (fun r3 M3 z => ?_)
    obtain ⟨rfl, rfl⟩ := z
    show zV G (eX6_lot (g_rmv 6)) (0, 0) 6 [(0, .ref 0), (1, .int x), (2, .int y)] [.int (-1000001)] (mm I J t) _
    refine zV_istore_n (lv' := [(0, .ref 0), (1, .int x), (2, .int y), (3, .int (-1000001))]) dX6_lot_6 rfl rfl (by decide) rfl ?_
    refine zV_iload_n dX6_lot_7 rfl 3 rfl rfl ?_
    refine zV_if_ne (tgt := 21) dX6_lot_8 rfl rfl  (fun _ => ?_) (fun z => absurd z (by decide))
    refine zV_aload_n dX6_lot_21 rfl 0 rfl rfl ?_
    refine zV_iload_n dX6_lot_22 rfl 3 rfl rfl ?_
    refine zV_callV (E' := eX6_tell (g_rmv 1)) (av := [.int (-1000001)]) (st := []) (b := 0) dX6_lot_23 rfl (k_RX6_70 _) rfl ⟨by decide, by decide⟩ ⟨by decide, by decide⟩ (Or.inl rfl) rfl (Nat.le_of_ble_eq_true rfl) rfl rfl rfl (c_tell (w := 0) (by decide) (by decide)) (fun r23 M23 z => ?_)
    obtain ⟨rfl, rfl⟩ := z
    show zV G (eX6_lot (g_rmv 6)) (0, 0) 26 [(0, .ref 0), (1, .int x), (2, .int y), (3, .int (-1000001))] [.int (fdg 0)] (mm (up2 I 67 0 (I 67 0 + nI 1)) J t) _
    exact zV_ireturn dX6_lot_26 rfl rfl (PC.tell hC hw (by unfold op_lot; rw [if_neg h0]) (fun _ _ => rfl))

set_option maxRecDepth 100000 in
theorem p_deal {G : mG} {I : Nat → Nat → Int32} {J : Nat → Nat → Int64} {t : Nat} {B : Nat} {S : aS} (hC : InvC I S) (hw : wfS B S) (hB : B + 4 < 1000000) {x y : Int32} : zC G yX6_deal (eX6_deal (g_rmv 6)) [.ref 0, .int x, .int y] (mm I J t) (fun r M => PC I (op_deal S x y) r M) := by
  refine zC_of (by decide +kernel) rfl (by decide) (Nat.le_of_ble_eq_true rfl) ?_
  have n10 := hw.1.1
  show zV G (eX6_deal (g_rmv 6)) (0, 0) 0 [(0, .ref 0), (1, .int x), (2, .int y)] [] (mm I J t) _
  by_cases h0 : twoP x y
  · obtain ⟨p, q, hp, hq, hpq, rfl, rfl⟩ := z_two h0
    cases eo : ld_chg S.1 p q with
    | none =>
      show zV G (eX6_deal (g_rmv 6)) (0, 0) 0 [(0, .ref 0), (1, .int (nI p)), (2, .int (nI q))] [] (mm I J t) _
      refine zV_aload_n dX6_deal_0 rfl 0 rfl rfl ?_
      refine zV_iload_n dX6_deal_1 rfl 1 rfl rfl ?_
      refine zV_iload_n dX6_deal_2 rfl 2 rfl rfl ?_
      refine zV_callV (E' := eX6_seekChange (g_rmv 5)) (av := [.int (nI p), .int (nI q)]) (st := []) (b := 0) dX6_deal_3 rfl (k_RX6_188 _) rfl ⟨by decide, by decide⟩ ⟨by decide, by decide⟩ (Or.inl rfl) rfl (Nat.le_of_ble_eq_true rfl) rfl rfl rfl (c_sc3 hC hw hp hq hpq eo) (fun r3 M3 z => ?_)
      obtain ⟨I4, rfl, rfl, hF4⟩ := z
      show zV G (eX6_deal (g_rmv 6)) (0, 0) 6 [(0, .ref 0), (1, .int (nI p)), (2, .int (nI q))] [.int (-1000004)] (mm I4 J t) _
      refine zV_istore_n (lv' := [(0, .ref 0), (1, .int (nI p)), (2, .int (nI q)), (3, .int (-1000004))]) dX6_deal_6 rfl rfl (by decide) rfl ?_
      refine zV_iload_n dX6_deal_7 rfl 3 rfl rfl ?_
      refine zV_if_eq (tgt := 17) dX6_deal_8 rfl rfl  (fun z => absurd z (by decide)) (fun _ => ?_)
      refine zV_aload_n dX6_deal_11 rfl 0 rfl rfl ?_
      refine zV_iload_n dX6_deal_12 rfl 3 rfl rfl ?_
      refine zV_callV (E' := eX6_tell (g_rmv 1)) (av := [.int (-1000004)]) (st := []) (b := 0) dX6_deal_13 rfl (k_RX6_70 _) rfl ⟨by decide, by decide⟩ ⟨by decide, by decide⟩ (Or.inl rfl) rfl (Nat.le_of_ble_eq_true rfl) rfl rfl rfl (c_tell (w := 3) (by decide) (by decide)) (fun r13 M13 z => ?_)
      obtain ⟨rfl, rfl⟩ := z
      show zV G (eX6_deal (g_rmv 6)) (0, 0) 16 [(0, .ref 0), (1, .int (nI p)), (2, .int (nI q)), (3, .int (-1000004))] [.int (fdg 3)] (mm (up2 I4 67 3 (I4 67 3 + nI 1)) J t) _
      exact zV_ireturn dX6_deal_16 rfl rfl (PC.tell (hC.mv hw (fun i a _ => hF4 i (by unfold scr at a; omega))) hw (by unfold op_deal; rw [if_pos h0, tn_nI (show p < 2 ^ 31 by omega), tn_nI (show q < 2 ^ 31 by omega), eo]) (fun i hi => hF4 i (by omega)))
    | some bb =>
      have g1 := gv_lt n10 p bb
      have g2 := gv_lt n10 q bb
      have gn1 := gnN_le hw.1 p q bb
      have gp := chg_pos eo
      show zV G (eX6_deal (g_rmv 6)) (0, 0) 0 [(0, .ref 0), (1, .int (nI p)), (2, .int (nI q))] [] (mm I J t) _
      refine zV_aload_n dX6_deal_0 rfl 0 rfl rfl ?_
      refine zV_iload_n dX6_deal_1 rfl 1 rfl rfl ?_
      refine zV_iload_n dX6_deal_2 rfl 2 rfl rfl ?_
      refine zV_callV (E' := eX6_seekChange (g_rmv 5)) (av := [.int (nI p), .int (nI q)]) (st := []) (b := 0) dX6_deal_3 rfl (k_RX6_188 _) rfl ⟨by decide, by decide⟩ ⟨by decide, by decide⟩ (Or.inl rfl) rfl (Nat.le_of_ble_eq_true rfl) rfl rfl rfl (c_scF hC hw hp hq hpq eo) (fun r3 M3 z => ?_)
      obtain ⟨I4, rfl, rfl, hF4, hG4, hK4, hC4⟩ := z
      show zV G (eX6_deal (g_rmv 6)) (0, 0) 6 [(0, .ref 0), (1, .int (nI p)), (2, .int (nI q))] [.int (nI 0)] (mm I4 J t) _
      refine zV_istore_n (lv' := [(0, .ref 0), (1, .int (nI p)), (2, .int (nI q)), (3, .int (nI 0))]) dX6_deal_6 rfl rfl (by decide) rfl ?_
      refine zV_iload_n dX6_deal_7 rfl 3 rfl rfl ?_
      refine zN_if_eq (tgt := 17) dX6_deal_8 rfl rfl (by decide) (fun _ => ?_) (fun z => absurd z (by decide))
      refine zV_aload_n dX6_deal_17 rfl 0 rfl rfl ?_
      refine zV_getr (q' := 1) 0 dX6_deal_18 rfl fl_RX6_12 rfl (by decide) rfl rfl ?_
      refine zV_aload_n dX6_deal_21 rfl 0 rfl rfl ?_
      refine zV_getr (q' := 61) 9 dX6_deal_22 rfl fl_RX6_57 rfl (by decide) rfl rfl ?_
      refine zV_getI (x := (nI (gv S.1 p bb))) 6 dX6_deal_25 rfl fl_RX6_174 rfl (by decide) rfl hG4 ?_
      refine zV_iload_n dX6_deal_28 rfl 2 rfl rfl ?_
      refine zV_aload_n dX6_deal_29 rfl 0 rfl rfl ?_
      refine zV_getr (q' := 61) 9 dX6_deal_30 rfl fl_RX6_57 rfl (by decide) rfl rfl ?_
      refine zV_getI (x := (nI (gv S.1 q bb))) 7 dX6_deal_33 rfl fl_RX6_177 rfl (by decide) rfl hK4 ?_
      refine zV_iload_n dX6_deal_36 rfl 1 rfl rfl ?_
      refine zV_callV (E' := eX1_exchange (g_rmv 4)) (av := [.int (nI (gv S.1 p bb)), .int (nI q), .int (nI (gv S.1 q bb)), .int (nI p)]) (st := []) (b := 1) dX6_deal_37 rfl (k_RX6_180 _) rfl ⟨by decide, by decide⟩ ⟨by decide, by decide⟩ (Or.inl rfl) rfl (Nat.le_of_ble_eq_true rfl) (sh_land (Or.inl rfl)) rfl rfl (c_exchange (g := gv S.1 p bb) (to := q) (k := gv S.1 q bb) (fr := p) (Or.inl rfl) (hC.1.mv n10 (fun i a c => hF4 i (by omega))) hw.1 (by omega) hq (by omega) hp (by omega)) (fun r37 M37 z => ?_)
      obtain ⟨I41, rfl, rfl, hA41, hF41⟩ := z
      show zV G (eX6_deal (g_rmv 6)) (0, 0) 40 [(0, .ref 0), (1, .int (nI p)), (2, .int (nI q)), (3, .int (nI 0))] [] (mm I41 J t) _
      refine zV_aload_n dX6_deal_40 rfl 0 rfl rfl ?_
      refine zV_getr (q' := 61) 9 dX6_deal_41 rfl fl_RX6_57 rfl (by decide) rfl rfl ?_
      refine zV_getI (x := (nI (gnN S.1 p q bb))) 8 dX6_deal_44 rfl fl_RX6_171 rfl (by decide) rfl (by rw [hF41 61 (by omega)]; exact hC4) ?_
      exact zV_ireturn dX6_deal_47 rfl rfl (PC.land hC hw (by unfold op_deal; rw [if_pos h0, tn_nI (show p < 2 ^ 31 by omega), tn_nI (show q < 2 ^ 31 by omega), eo]; rfl) hA41 (fun i a b => (hF41 i (by omega)).trans (hF4 i (by unfold scr at b; omega))))
  · show zV G (eX6_deal (g_rmv 6)) (0, 0) 0 [(0, .ref 0), (1, .int x), (2, .int y)] [] (mm I J t) _
    refine zV_aload_n dX6_deal_0 rfl 0 rfl rfl ?_
    refine zV_iload_n dX6_deal_1 rfl 1 rfl rfl ?_
    refine zV_iload_n dX6_deal_2 rfl 2 rfl rfl ?_
    refine zV_callV (E' := eX6_seekChange (g_rmv 5)) (av := [.int x, .int y]) (st := []) (b := 0) dX6_deal_3 rfl (k_RX6_188 _) rfl ⟨by decide, by decide⟩ ⟨by decide, by decide⟩ (Or.inl rfl) rfl (Nat.le_of_ble_eq_true rfl) rfl rfl rfl (c_sc0 h0) (fun r3 M3 z => ?_)
    obtain ⟨rfl, rfl⟩ := z
    show zV G (eX6_deal (g_rmv 6)) (0, 0) 6 [(0, .ref 0), (1, .int x), (2, .int y)] [.int (-1000001)] (mm I J t) _
    refine zV_istore_n (lv' := [(0, .ref 0), (1, .int x), (2, .int y), (3, .int (-1000001))]) dX6_deal_6 rfl rfl (by decide) rfl ?_
    refine zV_iload_n dX6_deal_7 rfl 3 rfl rfl ?_
    refine zV_if_eq (tgt := 17) dX6_deal_8 rfl rfl  (fun z => absurd z (by decide)) (fun _ => ?_)
    refine zV_aload_n dX6_deal_11 rfl 0 rfl rfl ?_
    refine zV_iload_n dX6_deal_12 rfl 3 rfl rfl ?_
    refine zV_callV (E' := eX6_tell (g_rmv 1)) (av := [.int (-1000001)]) (st := []) (b := 0) dX6_deal_13 rfl (k_RX6_70 _) rfl ⟨by decide, by decide⟩ ⟨by decide, by decide⟩ (Or.inl rfl) rfl (Nat.le_of_ble_eq_true rfl) rfl rfl rfl (c_tell (w := 0) (by decide) (by decide)) (fun r13 M13 z => ?_)
    obtain ⟨rfl, rfl⟩ := z
    show zV G (eX6_deal (g_rmv 6)) (0, 0) 16 [(0, .ref 0), (1, .int x), (2, .int y), (3, .int (-1000001))] [.int (fdg 0)] (mm (up2 I 67 0 (I 67 0 + nI 1)) J t) _
    exact zV_ireturn dX6_deal_16 rfl rfl (PC.tell hC hw (by unfold op_deal; rw [if_neg h0]) (fun _ _ => rfl))

set_option maxRecDepth 100000 in
theorem q_gain {G : mG} {I : Nat → Nat → Int32} {J : Nat → Nat → Int64} {t : Nat} {B : Nat} {S : aS} (hM : InvM I S) (hw : wfS B S) {x y : Int32} : zC G yX7_gain (eX7_gain (g_rmv 6)) [.ref 76, .int x, .int y] (mm I J t) (fun r M => PM I (op_gain S x y) r M) := by
  refine zC_of (by decide +kernel) rfl (by decide) (Nat.le_of_ble_eq_true rfl) ?_
  have n10 := hw.1.1
  show zV G (eX7_gain (g_rmv 6)) (0, 0) 0 [(0, .ref 76), (1, .int x), (2, .int y)] [] (mm I J t) _
  by_cases h0 : twoP x y
  · obtain ⟨p, q, hp, hq, hpq, rfl, rfl⟩ := z_two h0
    cases eo : ld_chg S.1 p q with
    | none =>
      show zV G (eX7_gain (g_rmv 6)) (0, 0) 0 [(0, .ref 76), (1, .int (nI p)), (2, .int (nI q))] [] (mm I J t) _
      refine zV_iload_n dX7_gain_0 rfl 1 rfl rfl ?_
      refine zV_iload_n dX7_gain_1 rfl 2 rfl rfl ?_
      refine zV_callS (E' := eX7_areTwo (g_rmv 2)) (av := [.int (nI p), .int (nI q)]) (st := []) dX7_gain_2 rfl (k_RX7_159 _) rfl ⟨by decide, by decide⟩ ⟨by decide, by decide⟩ (Or.inl rfl) rfl (Nat.le_of_ble_eq_true rfl) (m_two (x := (nI p)) (y := (nI q))) (fun r2 M2 z => ?_)
      obtain ⟨rfl, rfl⟩ := z
      show zV G (eX7_gain (g_rmv 6)) (0, 0) 5 [(0, .ref 76), (1, .int (nI p)), (2, .int (nI q))] [.int (b2 (twoP (nI p) (nI q)))] (mm I J t) _
      refine zB_if_ne (tgt := 15) dX7_gain_5 rfl rfl  (fun _ => ?_) (fun z => absurd z (fun z => z h0))
      refine zV_aload_n dX7_gain_15 rfl 0 rfl rfl ?_
      refine zV_iload_n dX7_gain_16 rfl 1 rfl rfl ?_
      refine zV_iload_n dX7_gain_17 rfl 2 rfl rfl ?_
      refine zV_callV (E' := eX7_findChange (g_rmv 5)) (av := [.int (nI p), .int (nI q)]) (st := []) (b := 76) dX7_gain_18 rfl (k_RX7_208 _) rfl ⟨by decide, by decide⟩ ⟨by decide, by decide⟩ (Or.inl rfl) rfl (Nat.le_of_ble_eq_true rfl) rfl rfl rfl (m_findChange (p := p) (q := q) hM.1 hw.1 hp hq hpq) (fun r18 M18 z => ?_)
      obtain ⟨I4, rfl, rfl, hF4, hB4⟩ := z
      rw [eo] at hB4 ⊢
      show zV G (eX7_gain (g_rmv 6)) (0, 0) 21 [(0, .ref 76), (1, .int (nI p)), (2, .int (nI q))] [.int (nI 0)] (mm I4 J t) _
      refine zV_istore_n (lv' := [(0, .ref 76), (1, .int (nI p)), (2, .int (nI q)), (3, .int (nI 0))]) dX7_gain_21 rfl rfl (by decide) rfl ?_
      refine zV_iload_n dX7_gain_22 rfl 3 rfl rfl ?_
      refine zN_if_ne (tgt := 35) dX7_gain_23 rfl rfl (by omega) (fun z => absurd z (fun z => z rfl)) (fun _ => ?_)
      refine zV_aload_n dX7_gain_26 rfl 0 rfl rfl ?_
      refine zV_ldc (v := (-1000004)) dX7_gain_27 rfl tw1107 ?_
      refine zV_callV (E' := eX7_finding (g_rmv 0)) (av := [.int (-1000004)]) (st := []) (b := 76) dX7_gain_29 rfl (k_RX7_87 _) rfl ⟨by decide, by decide⟩ ⟨by decide, by decide⟩ (Or.inl rfl) rfl (Nat.le_of_ble_eq_true rfl) rfl rfl rfl (m_finding (w := 3) (by decide) (by decide)) (fun r29 M29 z => ?_)
      obtain ⟨rfl, rfl⟩ := z
      show zV G (eX7_gain (g_rmv 6)) (0, 0) 32 [(0, .ref 76), (1, .int (nI p)), (2, .int (nI q)), (3, .int (nI 0))] [.int (fdg 3)] (mm (mTell I4 3) J t) _
      refine zV_goto (tgt := 36) dX7_gain_32 rfl ?_
      exact zV_ireturn dX7_gain_36 rfl rfl (PM.tell hM (by decide) (by unfold op_gain; rw [if_pos h0, tn_nI (show p < 2 ^ 31 by omega), tn_nI (show q < 2 ^ 31 by omega), eo]) hF4.sc)
    | some bb =>
      have g1 := gv_lt n10 p bb
      have g2 := gv_lt n10 q bb
      have gn1 := gnN_le hw.1 p q bb
      have gp := chg_pos eo
      show zV G (eX7_gain (g_rmv 6)) (0, 0) 0 [(0, .ref 76), (1, .int (nI p)), (2, .int (nI q))] [] (mm I J t) _
      refine zV_iload_n dX7_gain_0 rfl 1 rfl rfl ?_
      refine zV_iload_n dX7_gain_1 rfl 2 rfl rfl ?_
      refine zV_callS (E' := eX7_areTwo (g_rmv 2)) (av := [.int (nI p), .int (nI q)]) (st := []) dX7_gain_2 rfl (k_RX7_159 _) rfl ⟨by decide, by decide⟩ ⟨by decide, by decide⟩ (Or.inl rfl) rfl (Nat.le_of_ble_eq_true rfl) (m_two (x := (nI p)) (y := (nI q))) (fun r2 M2 z => ?_)
      obtain ⟨rfl, rfl⟩ := z
      show zV G (eX7_gain (g_rmv 6)) (0, 0) 5 [(0, .ref 76), (1, .int (nI p)), (2, .int (nI q))] [.int (b2 (twoP (nI p) (nI q)))] (mm I J t) _
      refine zB_if_ne (tgt := 15) dX7_gain_5 rfl rfl  (fun _ => ?_) (fun z => absurd z (fun z => z h0))
      refine zV_aload_n dX7_gain_15 rfl 0 rfl rfl ?_
      refine zV_iload_n dX7_gain_16 rfl 1 rfl rfl ?_
      refine zV_iload_n dX7_gain_17 rfl 2 rfl rfl ?_
      refine zV_callV (E' := eX7_findChange (g_rmv 5)) (av := [.int (nI p), .int (nI q)]) (st := []) (b := 76) dX7_gain_18 rfl (k_RX7_208 _) rfl ⟨by decide, by decide⟩ ⟨by decide, by decide⟩ (Or.inl rfl) rfl (Nat.le_of_ble_eq_true rfl) rfl rfl rfl (m_findChange (p := p) (q := q) hM.1 hw.1 hp hq hpq) (fun r18 M18 z => ?_)
      obtain ⟨I4, rfl, rfl, hF4, hB4⟩ := z
      rw [eo] at hB4 ⊢
      show zV G (eX7_gain (g_rmv 6)) (0, 0) 21 [(0, .ref 76), (1, .int (nI p)), (2, .int (nI q))] [.int (nI (gnN S.1 p q bb))] (mm I4 J t) _
      refine zV_istore_n (lv' := [(0, .ref 76), (1, .int (nI p)), (2, .int (nI q)), (3, .int (nI (gnN S.1 p q bb)))]) dX7_gain_21 rfl rfl (by decide) rfl ?_
      refine zV_iload_n dX7_gain_22 rfl 3 rfl rfl ?_
      refine zN_if_ne (tgt := 35) dX7_gain_23 rfl rfl (by omega) (fun _ => ?_) (fun z => absurd z (by omega))
      refine zV_iload_n dX7_gain_35 rfl 3 rfl rfl ?_
      exact zV_ireturn dX7_gain_36 rfl rfl (PM.same hM (by unfold op_gain; rw [if_pos h0, tn_nI (show p < 2 ^ 31 by omega), tn_nI (show q < 2 ^ 31 by omega), eo]) hF4.sc)
  · show zV G (eX7_gain (g_rmv 6)) (0, 0) 0 [(0, .ref 76), (1, .int x), (2, .int y)] [] (mm I J t) _
    refine zV_iload_n dX7_gain_0 rfl 1 rfl rfl ?_
    refine zV_iload_n dX7_gain_1 rfl 2 rfl rfl ?_
    refine zV_callS (E' := eX7_areTwo (g_rmv 2)) (av := [.int x, .int y]) (st := []) dX7_gain_2 rfl (k_RX7_159 _) rfl ⟨by decide, by decide⟩ ⟨by decide, by decide⟩ (Or.inl rfl) rfl (Nat.le_of_ble_eq_true rfl) (m_two (x := x) (y := y)) (fun r2 M2 z => ?_)
    obtain ⟨rfl, rfl⟩ := z
    show zV G (eX7_gain (g_rmv 6)) (0, 0) 5 [(0, .ref 76), (1, .int x), (2, .int y)] [.int (b2 (twoP x y))] (mm I J t) _
    refine zB_if_ne (tgt := 15) dX7_gain_5 rfl rfl  (fun z => absurd z h0) (fun _ => ?_)
    refine zV_aload_n dX7_gain_8 rfl 0 rfl rfl ?_
    refine zV_ldc (v := (-1000001)) dX7_gain_9 rfl tw970 ?_
    refine zV_callV (E' := eX7_finding (g_rmv 0)) (av := [.int (-1000001)]) (st := []) (b := 76) dX7_gain_11 rfl (k_RX7_87 _) rfl ⟨by decide, by decide⟩ ⟨by decide, by decide⟩ (Or.inl rfl) rfl (Nat.le_of_ble_eq_true rfl) rfl rfl rfl (m_finding (w := 0) (by decide) (by decide)) (fun r11 M11 z => ?_)
    obtain ⟨rfl, rfl⟩ := z
    show zV G (eX7_gain (g_rmv 6)) (0, 0) 14 [(0, .ref 76), (1, .int x), (2, .int y)] [.int (fdg 0)] (mm (mTell I 0) J t) _
    exact zV_ireturn dX7_gain_14 rfl rfl (PM.tell hM (by decide) (by unfold op_gain; rw [if_neg h0]) scM.rf)

set_option maxRecDepth 100000 in
theorem q_lot {G : mG} {I : Nat → Nat → Int32} {J : Nat → Nat → Int64} {t : Nat} {B : Nat} {S : aS} (hM : InvM I S) (hw : wfS B S) {x y : Int32} : zC G yX7_lot (eX7_lot (g_rmv 6)) [.ref 76, .int x, .int y] (mm I J t) (fun r M => PM I (op_lot S x y) r M) := by
  refine zC_of (by decide +kernel) rfl (by decide) (Nat.le_of_ble_eq_true rfl) ?_
  have n10 := hw.1.1
  show zV G (eX7_lot (g_rmv 6)) (0, 0) 0 [(0, .ref 76), (1, .int x), (2, .int y)] [] (mm I J t) _
  by_cases h0 : twoP x y
  · obtain ⟨p, q, hp, hq, hpq, rfl, rfl⟩ := z_two h0
    cases eo : ld_chg S.1 p q with
    | none =>
      show zV G (eX7_lot (g_rmv 6)) (0, 0) 0 [(0, .ref 76), (1, .int (nI p)), (2, .int (nI q))] [] (mm I J t) _
      refine zV_iload_n dX7_lot_0 rfl 1 rfl rfl ?_
      refine zV_iload_n dX7_lot_1 rfl 2 rfl rfl ?_
      refine zV_callS (E' := eX7_areTwo (g_rmv 2)) (av := [.int (nI p), .int (nI q)]) (st := []) dX7_lot_2 rfl (k_RX7_159 _) rfl ⟨by decide, by decide⟩ ⟨by decide, by decide⟩ (Or.inl rfl) rfl (Nat.le_of_ble_eq_true rfl) (m_two (x := (nI p)) (y := (nI q))) (fun r2 M2 z => ?_)
      obtain ⟨rfl, rfl⟩ := z
      show zV G (eX7_lot (g_rmv 6)) (0, 0) 5 [(0, .ref 76), (1, .int (nI p)), (2, .int (nI q))] [.int (b2 (twoP (nI p) (nI q)))] (mm I J t) _
      refine zB_if_ne (tgt := 15) dX7_lot_5 rfl rfl  (fun _ => ?_) (fun z => absurd z (fun z => z h0))
      refine zV_aload_n dX7_lot_15 rfl 0 rfl rfl ?_
      refine zV_iload_n dX7_lot_16 rfl 1 rfl rfl ?_
      refine zV_iload_n dX7_lot_17 rfl 2 rfl rfl ?_
      refine zV_callV (E' := eX7_findChange (g_rmv 5)) (av := [.int (nI p), .int (nI q)]) (st := []) (b := 76) dX7_lot_18 rfl (k_RX7_208 _) rfl ⟨by decide, by decide⟩ ⟨by decide, by decide⟩ (Or.inl rfl) rfl (Nat.le_of_ble_eq_true rfl) rfl rfl rfl (m_findChange (p := p) (q := q) hM.1 hw.1 hp hq hpq) (fun r18 M18 z => ?_)
      obtain ⟨I4, rfl, rfl, hF4, hB4⟩ := z
      rw [eo] at hB4 ⊢
      show zV G (eX7_lot (g_rmv 6)) (0, 0) 21 [(0, .ref 76), (1, .int (nI p)), (2, .int (nI q))] [.int (nI 0)] (mm I4 J t) _
      refine zN_if_ne (tgt := 33) dX7_lot_21 rfl rfl (by omega) (fun z => absurd z (fun z => z rfl)) (fun _ => ?_)
      refine zV_aload_n dX7_lot_24 rfl 0 rfl rfl ?_
      refine zV_ldc (v := (-1000004)) dX7_lot_25 rfl tw1107 ?_
      refine zV_callV (E' := eX7_finding (g_rmv 0)) (av := [.int (-1000004)]) (st := []) (b := 76) dX7_lot_27 rfl (k_RX7_87 _) rfl ⟨by decide, by decide⟩ ⟨by decide, by decide⟩ (Or.inl rfl) rfl (Nat.le_of_ble_eq_true rfl) rfl rfl rfl (m_finding (w := 3) (by decide) (by decide)) (fun r27 M27 z => ?_)
      obtain ⟨rfl, rfl⟩ := z
      show zV G (eX7_lot (g_rmv 6)) (0, 0) 30 [(0, .ref 76), (1, .int (nI p)), (2, .int (nI q))] [.int (fdg 3)] (mm (mTell I4 3) J t) _
      refine zV_goto (tgt := 37) dX7_lot_30 rfl ?_
      exact zV_ireturn dX7_lot_37 rfl rfl (PM.tell hM (by decide) (by unfold op_lot; rw [if_pos h0, tn_nI (show p < 2 ^ 31 by omega), tn_nI (show q < 2 ^ 31 by omega), eo]) hF4.sc)
    | some bb =>
      have g1 := gv_lt n10 p bb
      have g2 := gv_lt n10 q bb
      have gn1 := gnN_le hw.1 p q bb
      have gp := chg_pos eo
      show zV G (eX7_lot (g_rmv 6)) (0, 0) 0 [(0, .ref 76), (1, .int (nI p)), (2, .int (nI q))] [] (mm I J t) _
      refine zV_iload_n dX7_lot_0 rfl 1 rfl rfl ?_
      refine zV_iload_n dX7_lot_1 rfl 2 rfl rfl ?_
      refine zV_callS (E' := eX7_areTwo (g_rmv 2)) (av := [.int (nI p), .int (nI q)]) (st := []) dX7_lot_2 rfl (k_RX7_159 _) rfl ⟨by decide, by decide⟩ ⟨by decide, by decide⟩ (Or.inl rfl) rfl (Nat.le_of_ble_eq_true rfl) (m_two (x := (nI p)) (y := (nI q))) (fun r2 M2 z => ?_)
      obtain ⟨rfl, rfl⟩ := z
      show zV G (eX7_lot (g_rmv 6)) (0, 0) 5 [(0, .ref 76), (1, .int (nI p)), (2, .int (nI q))] [.int (b2 (twoP (nI p) (nI q)))] (mm I J t) _
      refine zB_if_ne (tgt := 15) dX7_lot_5 rfl rfl  (fun _ => ?_) (fun z => absurd z (fun z => z h0))
      refine zV_aload_n dX7_lot_15 rfl 0 rfl rfl ?_
      refine zV_iload_n dX7_lot_16 rfl 1 rfl rfl ?_
      refine zV_iload_n dX7_lot_17 rfl 2 rfl rfl ?_
      refine zV_callV (E' := eX7_findChange (g_rmv 5)) (av := [.int (nI p), .int (nI q)]) (st := []) (b := 76) dX7_lot_18 rfl (k_RX7_208 _) rfl ⟨by decide, by decide⟩ ⟨by decide, by decide⟩ (Or.inl rfl) rfl (Nat.le_of_ble_eq_true rfl) rfl rfl rfl (m_findChange (p := p) (q := q) hM.1 hw.1 hp hq hpq) (fun r18 M18 z => ?_)
      obtain ⟨I4, rfl, rfl, hF4, hB4⟩ := z
      rw [eo] at hB4 ⊢
      show zV G (eX7_lot (g_rmv 6)) (0, 0) 21 [(0, .ref 76), (1, .int (nI p)), (2, .int (nI q))] [.int (nI (gnN S.1 p q bb))] (mm I4 J t) _
      refine zN_if_ne (tgt := 33) dX7_lot_21 rfl rfl (by omega) (fun _ => ?_) (fun z => absurd z (by omega))
      refine zV_aload_n dX7_lot_33 rfl 0 rfl rfl ?_
      refine zV_getI (x := (nI (gv S.1 p bb))) 6 dX7_lot_34 rfl fl_RX7_179 rfl (by decide) rfl hB4.1 ?_
      exact zV_ireturn dX7_lot_37 rfl rfl (PM.same hM (by unfold op_lot; rw [if_pos h0, tn_nI (show p < 2 ^ 31 by omega), tn_nI (show q < 2 ^ 31 by omega), eo]) hF4.sc)
  · show zV G (eX7_lot (g_rmv 6)) (0, 0) 0 [(0, .ref 76), (1, .int x), (2, .int y)] [] (mm I J t) _
    refine zV_iload_n dX7_lot_0 rfl 1 rfl rfl ?_
    refine zV_iload_n dX7_lot_1 rfl 2 rfl rfl ?_
    refine zV_callS (E' := eX7_areTwo (g_rmv 2)) (av := [.int x, .int y]) (st := []) dX7_lot_2 rfl (k_RX7_159 _) rfl ⟨by decide, by decide⟩ ⟨by decide, by decide⟩ (Or.inl rfl) rfl (Nat.le_of_ble_eq_true rfl) (m_two (x := x) (y := y)) (fun r2 M2 z => ?_)
    obtain ⟨rfl, rfl⟩ := z
    show zV G (eX7_lot (g_rmv 6)) (0, 0) 5 [(0, .ref 76), (1, .int x), (2, .int y)] [.int (b2 (twoP x y))] (mm I J t) _
    refine zB_if_ne (tgt := 15) dX7_lot_5 rfl rfl  (fun z => absurd z h0) (fun _ => ?_)
    refine zV_aload_n dX7_lot_8 rfl 0 rfl rfl ?_
    refine zV_ldc (v := (-1000001)) dX7_lot_9 rfl tw970 ?_
    refine zV_callV (E' := eX7_finding (g_rmv 0)) (av := [.int (-1000001)]) (st := []) (b := 76) dX7_lot_11 rfl (k_RX7_87 _) rfl ⟨by decide, by decide⟩ ⟨by decide, by decide⟩ (Or.inl rfl) rfl (Nat.le_of_ble_eq_true rfl) rfl rfl rfl (m_finding (w := 0) (by decide) (by decide)) (fun r11 M11 z => ?_)
    obtain ⟨rfl, rfl⟩ := z
    show zV G (eX7_lot (g_rmv 6)) (0, 0) 14 [(0, .ref 76), (1, .int x), (2, .int y)] [.int (fdg 0)] (mm (mTell I 0) J t) _
    exact zV_ireturn dX7_lot_14 rfl rfl (PM.tell hM (by decide) (by unfold op_lot; rw [if_neg h0]) scM.rf)

set_option maxRecDepth 100000 in
theorem q_deal {G : mG} {I : Nat → Nat → Int32} {J : Nat → Nat → Int64} {t : Nat} {B : Nat} {S : aS} (hM : InvM I S) (hw : wfS B S) (hB : B + 4 < 1000000) {x y : Int32} : zC G yX7_deal (eX7_deal (g_rmv 7)) [.ref 76, .int x, .int y] (mm I J t) (fun r M => PM I (op_deal S x y) r M) := by
  refine zC_of (by decide +kernel) rfl (by decide) (Nat.le_of_ble_eq_true rfl) ?_
  have n10 := hw.1.1
  show zV G (eX7_deal (g_rmv 7)) (0, 0) 0 [(0, .ref 76), (1, .int x), (2, .int y)] [] (mm I J t) _
  by_cases h0 : twoP x y
  · obtain ⟨p, q, hp, hq, hpq, rfl, rfl⟩ := z_two h0
    cases eo : ld_chg S.1 p q with
    | none =>
      show zV G (eX7_deal (g_rmv 7)) (0, 0) 0 [(0, .ref 76), (1, .int (nI p)), (2, .int (nI q))] [] (mm I J t) _
      refine zV_iload_n dX7_deal_0 rfl 1 rfl rfl ?_
      refine zV_iload_n dX7_deal_1 rfl 2 rfl rfl ?_
      refine zV_callS (E' := eX7_areTwo (g_rmv 2)) (av := [.int (nI p), .int (nI q)]) (st := []) dX7_deal_2 rfl (k_RX7_159 _) rfl ⟨by decide, by decide⟩ ⟨by decide, by decide⟩ (Or.inl rfl) rfl (Nat.le_of_ble_eq_true rfl) (m_two (x := (nI p)) (y := (nI q))) (fun r2 M2 z => ?_)
      obtain ⟨rfl, rfl⟩ := z
      show zV G (eX7_deal (g_rmv 7)) (0, 0) 5 [(0, .ref 76), (1, .int (nI p)), (2, .int (nI q))] [.int (b2 (twoP (nI p) (nI q)))] (mm I J t) _
      refine zB_if_ne (tgt := 15) dX7_deal_5 rfl rfl  (fun _ => ?_) (fun z => absurd z (fun z => z h0))
      refine zV_aload_n dX7_deal_15 rfl 0 rfl rfl ?_
      refine zV_iload_n dX7_deal_16 rfl 1 rfl rfl ?_
      refine zV_iload_n dX7_deal_17 rfl 2 rfl rfl ?_
      refine zV_callV (E' := eX7_findChange (g_rmv 5)) (av := [.int (nI p), .int (nI q)]) (st := []) (b := 76) dX7_deal_18 rfl (k_RX7_208 _) rfl ⟨by decide, by decide⟩ ⟨by decide, by decide⟩ (Or.inl rfl) rfl (Nat.le_of_ble_eq_true rfl) rfl rfl rfl (m_findChange (p := p) (q := q) hM.1 hw.1 hp hq hpq) (fun r18 M18 z => ?_)
      obtain ⟨I4, rfl, rfl, hF4, hB4⟩ := z
      rw [eo] at hB4 ⊢
      show zV G (eX7_deal (g_rmv 7)) (0, 0) 21 [(0, .ref 76), (1, .int (nI p)), (2, .int (nI q))] [.int (nI 0)] (mm I4 J t) _
      refine zV_istore_n (lv' := [(0, .ref 76), (1, .int (nI p)), (2, .int (nI q)), (3, .int (nI 0))]) dX7_deal_21 rfl rfl (by decide) rfl ?_
      refine zV_iload_n dX7_deal_22 rfl 3 rfl rfl ?_
      refine zN_if_ne (tgt := 33) dX7_deal_23 rfl rfl (by omega) (fun z => absurd z (fun z => z rfl)) (fun _ => ?_)
      refine zV_aload_n dX7_deal_26 rfl 0 rfl rfl ?_
      refine zV_ldc (v := (-1000004)) dX7_deal_27 rfl tw1107 ?_
      refine zV_callV (E' := eX7_finding (g_rmv 0)) (av := [.int (-1000004)]) (st := []) (b := 76) dX7_deal_29 rfl (k_RX7_87 _) rfl ⟨by decide, by decide⟩ ⟨by decide, by decide⟩ (Or.inl rfl) rfl (Nat.le_of_ble_eq_true rfl) rfl rfl rfl (m_finding (w := 3) (by decide) (by decide)) (fun r29 M29 z => ?_)
      obtain ⟨rfl, rfl⟩ := z
      show zV G (eX7_deal (g_rmv 7)) (0, 0) 32 [(0, .ref 76), (1, .int (nI p)), (2, .int (nI q)), (3, .int (nI 0))] [.int (fdg 3)] (mm (mTell I4 3) J t) _
      exact zV_ireturn dX7_deal_32 rfl rfl (PM.tell hM (by decide) (by unfold op_deal; rw [if_pos h0, tn_nI (show p < 2 ^ 31 by omega), tn_nI (show q < 2 ^ 31 by omega), eo]) hF4.sc)
    | some bb =>
      have g1 := gv_lt n10 p bb
      have g2 := gv_lt n10 q bb
      have gn1 := gnN_le hw.1 p q bb
      have gp := chg_pos eo
      show zV G (eX7_deal (g_rmv 7)) (0, 0) 0 [(0, .ref 76), (1, .int (nI p)), (2, .int (nI q))] [] (mm I J t) _
      refine zV_iload_n dX7_deal_0 rfl 1 rfl rfl ?_
      refine zV_iload_n dX7_deal_1 rfl 2 rfl rfl ?_
      refine zV_callS (E' := eX7_areTwo (g_rmv 2)) (av := [.int (nI p), .int (nI q)]) (st := []) dX7_deal_2 rfl (k_RX7_159 _) rfl ⟨by decide, by decide⟩ ⟨by decide, by decide⟩ (Or.inl rfl) rfl (Nat.le_of_ble_eq_true rfl) (m_two (x := (nI p)) (y := (nI q))) (fun r2 M2 z => ?_)
      obtain ⟨rfl, rfl⟩ := z
      show zV G (eX7_deal (g_rmv 7)) (0, 0) 5 [(0, .ref 76), (1, .int (nI p)), (2, .int (nI q))] [.int (b2 (twoP (nI p) (nI q)))] (mm I J t) _
      refine zB_if_ne (tgt := 15) dX7_deal_5 rfl rfl  (fun _ => ?_) (fun z => absurd z (fun z => z h0))
      refine zV_aload_n dX7_deal_15 rfl 0 rfl rfl ?_
      refine zV_iload_n dX7_deal_16 rfl 1 rfl rfl ?_
      refine zV_iload_n dX7_deal_17 rfl 2 rfl rfl ?_
      refine zV_callV (E' := eX7_findChange (g_rmv 5)) (av := [.int (nI p), .int (nI q)]) (st := []) (b := 76) dX7_deal_18 rfl (k_RX7_208 _) rfl ⟨by decide, by decide⟩ ⟨by decide, by decide⟩ (Or.inl rfl) rfl (Nat.le_of_ble_eq_true rfl) rfl rfl rfl (m_findChange (p := p) (q := q) hM.1 hw.1 hp hq hpq) (fun r18 M18 z => ?_)
      obtain ⟨I4, rfl, rfl, hF4, hB4⟩ := z
      rw [eo] at hB4 ⊢
      show zV G (eX7_deal (g_rmv 7)) (0, 0) 21 [(0, .ref 76), (1, .int (nI p)), (2, .int (nI q))] [.int (nI (gnN S.1 p q bb))] (mm I4 J t) _
      refine zV_istore_n (lv' := [(0, .ref 76), (1, .int (nI p)), (2, .int (nI q)), (3, .int (nI (gnN S.1 p q bb)))]) dX7_deal_21 rfl rfl (by decide) rfl ?_
      refine zV_iload_n dX7_deal_22 rfl 3 rfl rfl ?_
      refine zN_if_ne (tgt := 33) dX7_deal_23 rfl rfl (by omega) (fun _ => ?_) (fun z => absurd z (by omega))
      refine zV_aload_n dX7_deal_33 rfl 0 rfl rfl ?_
      refine zV_iload_n dX7_deal_34 rfl 1 rfl rfl ?_
      refine zV_iload_n dX7_deal_35 rfl 2 rfl rfl ?_
      refine zV_callV (E' := eX7_bothPaid (g_rmv 6)) (av := [.int (nI p), .int (nI q)]) (st := []) (b := 76) dX7_deal_36 rfl (k_RX7_202 _) rfl ⟨by decide, by decide⟩ ⟨by decide, by decide⟩ (Or.inl rfl) rfl (Nat.le_of_ble_eq_true rfl) rfl rfl rfl (m_bothPaid (p := p) (q := q) (bb := bb) (hM.1.mv (hF4.1 77 (by decide))) hw.1 hp hq (by omega) hB4.1 hB4.2 rfl) (fun r36 M36 z => ?_)
      obtain ⟨I24, rfl, rfl, hR24, hF24⟩ := z
      show zV G (eX7_deal (g_rmv 7)) (0, 0) 39 [(0, .ref 76), (1, .int (nI p)), (2, .int (nI q)), (3, .int (nI (gnN S.1 p q bb)))] [] (mm I24 J t) _
      refine zV_iload_n dX7_deal_39 rfl 3 rfl rfl ?_
      exact zV_ireturn dX7_deal_40 rfl rfl (PM.land hM (by unfold op_deal; rw [if_pos h0, tn_nI (show p < 2 ^ 31 by omega), tn_nI (show q < 2 ^ 31 by omega), eo]) hF4.sc hR24 hF24)
  · show zV G (eX7_deal (g_rmv 7)) (0, 0) 0 [(0, .ref 76), (1, .int x), (2, .int y)] [] (mm I J t) _
    refine zV_iload_n dX7_deal_0 rfl 1 rfl rfl ?_
    refine zV_iload_n dX7_deal_1 rfl 2 rfl rfl ?_
    refine zV_callS (E' := eX7_areTwo (g_rmv 2)) (av := [.int x, .int y]) (st := []) dX7_deal_2 rfl (k_RX7_159 _) rfl ⟨by decide, by decide⟩ ⟨by decide, by decide⟩ (Or.inl rfl) rfl (Nat.le_of_ble_eq_true rfl) (m_two (x := x) (y := y)) (fun r2 M2 z => ?_)
    obtain ⟨rfl, rfl⟩ := z
    show zV G (eX7_deal (g_rmv 7)) (0, 0) 5 [(0, .ref 76), (1, .int x), (2, .int y)] [.int (b2 (twoP x y))] (mm I J t) _
    refine zB_if_ne (tgt := 15) dX7_deal_5 rfl rfl  (fun z => absurd z h0) (fun _ => ?_)
    refine zV_aload_n dX7_deal_8 rfl 0 rfl rfl ?_
    refine zV_ldc (v := (-1000001)) dX7_deal_9 rfl tw970 ?_
    refine zV_callV (E' := eX7_finding (g_rmv 0)) (av := [.int (-1000001)]) (st := []) (b := 76) dX7_deal_11 rfl (k_RX7_87 _) rfl ⟨by decide, by decide⟩ ⟨by decide, by decide⟩ (Or.inl rfl) rfl (Nat.le_of_ble_eq_true rfl) rfl rfl rfl (m_finding (w := 0) (by decide) (by decide)) (fun r11 M11 z => ?_)
    obtain ⟨rfl, rfl⟩ := z
    show zV G (eX7_deal (g_rmv 7)) (0, 0) 14 [(0, .ref 76), (1, .int x), (2, .int y)] [.int (fdg 0)] (mm (mTell I 0) J t) _
    exact zV_ireturn dX7_deal_14 rfl rfl (PM.tell hM (by decide) (by unfold op_deal; rw [if_neg h0]) scM.rf)
