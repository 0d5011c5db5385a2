/-! copy: both classes -/
abbrev hasR (z : Nat) (a n : Int32) : Prop := 0 ≤ a ∧ 0 ≤ n ∧ a ≤ nI z ∧ n ≤ nI z - a
theorem hasR_iff {z : Nat} {a n : Int32} (hz : z ≤ 40) : hasR z a n ↔ ∃ i m, a = nI i ∧ n = nI m ∧ i + m ≤ z := by
  constructor
  · rintro ⟨h1, h2, h3, h4⟩
    obtain ⟨i, hi, rfl⟩ := nI_of (Int32.not_lt.mpr h1)
    obtain ⟨m, hm, rfl⟩ := nI_of (Int32.not_lt.mpr h2)
    have g3 := (nI_leI hi (by omega)).mp h3
    rw [pk_sub g3] at h4
    have g4 := (nI_leI hm (by omega)).mp h4
    exact ⟨i, m, rfl, rfl, by omega⟩
  · rintro ⟨i, m, rfl, rfl, h⟩
    exact ⟨nI_pos' (by omega), nI_pos' (by omega), nI_le (by omega) (by omega), by rw [pk_sub (by omega)]; exact nI_le (by omega) (by omega)⟩
theorem lgc (a b : Int64) : 0 < lg_cmp a b ↔ b < a := by
  unfold lg_cmp
  by_cases h1 : a < b
  · have hne : ¬ a = b := fun e => by subst e; exact absurd h1 Int64.lt_irrefl
    simp [h1, hne, Int64.not_lt.mpr (Int64.le_of_lt h1)]
  · by_cases h2 : a = b
    · subst h2; simp
    · have h3 : b < a := Int64.lt_of_le_of_ne (Int64.not_lt.mp h1) (fun e => h2 e.symm)
      simp [h1, h2, h3]
def cpN (ns nt : Nat → Int32) (i j m : Nat) : Nat → Int32 := fun a => if j ≤ a ∧ a < j + m then ns (i + (a - j)) else nt a
def op_copy (S : aS) (x f y t n : Int32) : Int32 × aS := if inR x 3 then (if inR y 3 then (if S.2.2.2.2.2.1 (tn x) = 0 then fnd S 5 else if S.2.2.2.2.2.1 (tn y) = 0 then fnd S 5 else if S.2.2.2.2.2.1 (tn x) = S.2.2.2.2.2.1 (tn y) then (if hasR (S.2.2.2.2.2.2.1 (tn x)) f n ∧ hasR (S.2.2.2.2.2.2.1 (tn y)) t n then (n, st_s S S.2.2.2.2.2.1 S.2.2.2.2.2.2.1 (upN S.2.2.2.2.2.2.2 (tn y) (cpN (S.2.2.2.2.2.2.2 (tn x)) (S.2.2.2.2.2.2.2 (tn y)) (tn f) (tn t) (tn n)))) else fnd S 0) else fnd S 2) else fnd S 0) else fnd S 0
set_option maxRecDepth 100000 in
theorem c_hasRow {G : mG} {I : Nat → Nat → Int32} {J : Nat → Nat → Int64} {t : Nat} {s z : Nat} (hs : s < 4) (hz : I (68 + 2 * s) 2 = nI z) {a n : Int32} : zC G yX4_hasRow (eX4_hasRow (g_rmv 0)) [.ref (68 + 2 * s), .int a, .int n] (mm I J t) (fun r M => r = some (.int (b2 (hasR z a n))) ∧ M = mm I J t) := by
  refine zC_of (by decide +kernel) rfl (by decide) (Nat.le_of_ble_eq_true rfl) ?_
  show zV G (eX4_hasRow (g_rmv 0)) (0, 0) 0 [(0, .ref (68 + 2 * s)), (1, .int a), (2, .int n)] [] (mm I J t) _
  refine zV_iload_n dX4_hasRow_0 rfl 1 rfl rfl ?_
  refine zV_if_lt (tgt := 30) dX4_hasRow_1 rfl rfl  (fun h1 => ?_) (fun h1 => ?_)
  · refine zV_iconst (v := (nI 0)) dX4_hasRow_30 rfl rfl ?_
    exact zV_ireturn dX4_hasRow_31 rfl rfl (⟨z_b0 (by unfold hasR; have z0 : (0 : Int32).toInt = 0 := rfl; simp only [Int32.lt_iff_toInt_lt, Int32.le_iff_toInt_le, z0] at h1 ⊢; omega), rfl⟩)
  · refine zV_iload_n dX4_hasRow_4 rfl 2 rfl rfl ?_
    refine zV_if_lt (tgt := 30) dX4_hasRow_5 rfl rfl  (fun h5 => ?_) (fun h5 => ?_)
    · refine zV_iconst (v := (nI 0)) dX4_hasRow_30 rfl rfl ?_
      exact zV_ireturn dX4_hasRow_31 rfl rfl (⟨z_b0 (by unfold hasR; have z0 : (0 : Int32).toInt = 0 := rfl; simp only [Int32.lt_iff_toInt_lt, Int32.le_iff_toInt_le, z0] at h1 h5 ⊢; omega), rfl⟩)
    · refine zV_iload_n dX4_hasRow_8 rfl 1 rfl rfl ?_
      refine zV_aload_n dX4_hasRow_9 rfl 0 rfl rfl ?_
      refine zV_getI (x := (nI z)) 2 dX4_hasRow_10 rfl fl_RX4_19 (sh_sheet hs) (by decide) rfl hz ?_
      refine zV_icmp_gt (tgt := 30) dX4_hasRow_13 rfl rfl  (fun h13 => ?_) (fun h13 => ?_)
      · refine zV_iconst (v := (nI 0)) dX4_hasRow_30 rfl rfl ?_
        exact zV_ireturn dX4_hasRow_31 rfl rfl (⟨z_b0 (by unfold hasR; have z0 : (0 : Int32).toInt = 0 := rfl; simp only [Int32.lt_iff_toInt_lt, Int32.le_iff_toInt_le, z0] at h1 h5 h13 ⊢; omega), rfl⟩)
      · refine zV_iload_n dX4_hasRow_16 rfl 2 rfl rfl ?_
        refine zV_aload_n dX4_hasRow_17 rfl 0 rfl rfl ?_
        refine zV_getI (x := (nI z)) 2 dX4_hasRow_18 rfl fl_RX4_19 (sh_sheet hs) (by decide) rfl hz ?_
        refine zV_iload_n dX4_hasRow_21 rfl 1 rfl rfl ?_
        refine zA_isub (z := ((nI z) - a)) dX4_hasRow_22 rfl  (rfl) ?_
        refine zV_icmp_gt (tgt := 30) dX4_hasRow_23 rfl rfl  (fun h23 => ?_) (fun h23 => ?_)
        · refine zV_iconst (v := (nI 0)) dX4_hasRow_30 rfl rfl ?_
          exact zV_ireturn dX4_hasRow_31 rfl rfl (⟨z_b0 (by unfold hasR; have z0 : (0 : Int32).toInt = 0 := rfl; simp only [Int32.lt_iff_toInt_lt, Int32.le_iff_toInt_le, z0] at h1 h5 h13 h23 ⊢; omega), rfl⟩)
        · refine zV_iconst (v := (nI 1)) dX4_hasRow_26 rfl rfl ?_
          refine zV_goto (tgt := 31) dX4_hasRow_27 rfl ?_
          exact zV_ireturn dX4_hasRow_31 rfl rfl (⟨z_b1 (by unfold hasR; have z0 : (0 : Int32).toInt = 0 := rfl; simp only [Int32.lt_iff_toInt_lt, Int32.le_iff_toInt_le, z0] at h1 h5 h13 h23 ⊢; omega), rfl⟩)

set_option maxRecDepth 100000 in
theorem p_copy {G : mG} {I : Nat → Nat → Int32} {J : Nat → Nat → Int64} {t : Nat} {B : Nat} {S : aS} (hC : InvC I S) (hw : wfS B S) {x f y q n : Int32} : zC G yX6_copy (eX6_copy (g_rmv 2)) [.ref 0, .int x, .int f, .int y, .int q, .int n] (mm I J t) (fun r M => PC I (op_copy S x f y q n) r M) := by
  refine zC_of (by decide +kernel) rfl (by decide) (Nat.le_of_ble_eq_true rfl) ?_
  have n10 := hw.1.1
  show zV G (eX6_copy (g_rmv 2)) (0, 0) 0 [(0, .ref 0), (1, .int x), (2, .int f), (3, .int y), (4, .int q), (5, .int n)] [] (mm I J t) _
  refine zV_iload_n dX6_copy_0 rfl 1 rfl rfl ?_
  refine zV_callS (E' := eX6_isSheet (g_rmv 1)) (av := [.int x]) (st := []) dX6_copy_1 rfl (k_RX6_256 _) rfl ⟨by decide, by decide⟩ ⟨by decide, by decide⟩ (Or.inl rfl) rfl (Nat.le_of_ble_eq_true rfl) (c_isSheet (x := x)) (fun r1 M1 z => ?_)
  obtain ⟨rfl, rfl⟩ := z
  show zV G (eX6_copy (g_rmv 2)) (0, 0) 4 [(0, .ref 0), (1, .int x), (2, .int f), (3, .int y), (4, .int q), (5, .int n)] [.int (b2 (inR x 3))] (mm I J t) _
  refine zB_if_eq (tgt := 14) dX6_copy_4 rfl rfl  (fun h4 => ?_) (fun h4 => ?_)
  · refine zV_aload_n dX6_copy_14 rfl 0 rfl rfl ?_
    refine zV_ldc (v := (-1000001)) dX6_copy_15 rfl tw264 ?_
    refine zV_callV (E' := eX6_tell (g_rmv 1)) (av := [.int (-1000001)]) (st := []) (b := 0) dX6_copy_17 rfl (k_RX6_70 _) rfl ⟨by decide, by decide⟩ ⟨by decide, by decide⟩ (Or.inl rfl) rfl (Nat.le_of_ble_eq_true rfl) rfl rfl rfl (c_tell (w := 0) (by decide) (by decide)) (fun r17 M17 z => ?_)
    obtain ⟨rfl, rfl⟩ := z
    show zV G (eX6_copy (g_rmv 2)) (0, 0) 20 [(0, .ref 0), (1, .int x), (2, .int f), (3, .int y), (4, .int q), (5, .int n)] [.int (fdg 0)] (mm (up2 I 67 0 (I 67 0 + nI 1)) J t) _
    exact zV_ireturn dX6_copy_20 rfl rfl (PC.tell hC hw (by unfold op_copy; rw [if_neg h4]) (fun _ _ => rfl))
  · refine zV_iload_n dX6_copy_7 rfl 3 rfl rfl ?_
    refine zV_callS (E' := eX6_isSheet (g_rmv 1)) (av := [.int y]) (st := []) dX6_copy_8 rfl (k_RX6_256 _) rfl ⟨by decide, by decide⟩ ⟨by decide, by decide⟩ (Or.inl rfl) rfl (Nat.le_of_ble_eq_true rfl) (c_isSheet (x := y)) (fun r8 M8 z => ?_)
    obtain ⟨rfl, rfl⟩ := z
    show zV G (eX6_copy (g_rmv 2)) (0, 0) 11 [(0, .ref 0), (1, .int x), (2, .int f), (3, .int y), (4, .int q), (5, .int n)] [.int (b2 (inR y 3))] (mm I J t) _
    refine zB_if_ne (tgt := 21) dX6_copy_11 rfl rfl  (fun h11 => ?_) (fun h11 => ?_)
    · obtain ⟨s, hs3, rfl⟩ := (inR_iff (by decide)).mp h4
      obtain ⟨u, hu3, rfl⟩ := (inR_iff (by decide)).mp h11
      have hs4 : s < 4 := by omega
      have hu4 : u < 4 := by omega
      have bs := (hw.2.2.2.2.2.1 s hs4).1
      have zs := (hw.2.2.2.2.2.1 s hs4).2
      have bu := (hw.2.2.2.2.2.1 u hu4).1
      have zu := (hw.2.2.2.2.2.1 u hu4).2
      refine zV_aload_n dX6_copy_21 rfl 0 rfl rfl ?_
      refine zV_getr (q' := 43) 7 dX6_copy_22 rfl fl_RX6_43 rfl (by decide) rfl rfl ?_
      refine zV_iload_n dX6_copy_25 rfl 1 rfl rfl ?_
      refine zV_aaload (q' := (68 + 2 * s)) s dX6_copy_26 rfl rfl rfl (by decide) rfl (by omega) (by decide) (R_sheet (by omega)) ?_
      refine zV_astore (lv' := [(0, .ref 0), (1, .int (nI s)), (2, .int f), (3, .int (nI u)), (4, .int q), (5, .int n), (6, .ref (68 + 2 * s))]) dX6_copy_27 rfl (by decide) rfl ?_
      refine zV_aload_n dX6_copy_29 rfl 0 rfl rfl ?_
      refine zV_getr (q' := 43) 7 dX6_copy_30 rfl fl_RX6_43 rfl (by decide) rfl rfl ?_
      refine zV_iload_n dX6_copy_33 rfl 3 rfl rfl ?_
      refine zV_aaload (q' := (68 + 2 * u)) u dX6_copy_34 rfl rfl rfl (by decide) rfl (by omega) (by decide) (R_sheet (by omega)) ?_
      refine zV_astore (lv' := [(0, .ref 0), (1, .int (nI s)), (2, .int f), (3, .int (nI u)), (4, .int q), (5, .int n), (6, .ref (68 + 2 * s)), (7, .ref (68 + 2 * u))]) dX6_copy_35 rfl (by decide) rfl ?_
      refine zV_aload dX6_copy_37 rfl 6 rfl ?_
      refine zV_callV (E' := eX4_isMissing (g_rmv 0)) (av := []) (st := []) (b := (68 + 2 * s)) dX6_copy_39 rfl (k_RX6_272 _) rfl ⟨by decide, by decide⟩ ⟨by decide, by decide⟩ (Or.inl rfl) rfl (Nat.le_of_ble_eq_true rfl) (sh_sheet (by omega)) rfl rfl (c_isMissing (s := s) (b := S.2.2.2.2.2.1 s) hs4 (hC.2.2.2.2.2.2 s hs4).1 (by omega)) (fun r39 M39 z => ?_)
      obtain ⟨rfl, rfl⟩ := z
      show zV G (eX6_copy (g_rmv 2)) (0, 0) 42 [(0, .ref 0), (1, .int (nI s)), (2, .int f), (3, .int (nI u)), (4, .int q), (5, .int n), (6, .ref (68 + 2 * s)), (7, .ref (68 + 2 * u))] [.int (b2 (S.2.2.2.2.2.1 s = 0))] (mm I J t) _
      refine zB_if_ne (tgt := 53) dX6_copy_42 rfl rfl  (fun h42 => ?_) (fun h42 => ?_)
      · skip
        refine zV_aload_n dX6_copy_53 rfl 0 rfl rfl ?_
        refine zV_ldc (v := (-1000006)) dX6_copy_54 rfl tw780 ?_
        refine zV_callV (E' := eX6_tell (g_rmv 1)) (av := [.int (-1000006)]) (st := []) (b := 0) dX6_copy_56 rfl (k_RX6_70 _) rfl ⟨by decide, by decide⟩ ⟨by decide, by decide⟩ (Or.inl rfl) rfl (Nat.le_of_ble_eq_true rfl) rfl rfl rfl (c_tell (w := 5) (by decide) (by decide)) (fun r56 M56 z => ?_)
        obtain ⟨rfl, rfl⟩ := z
        show zV G (eX6_copy (g_rmv 2)) (0, 0) 59 [(0, .ref 0), (1, .int (nI s)), (2, .int f), (3, .int (nI u)), (4, .int q), (5, .int n), (6, .ref (68 + 2 * s)), (7, .ref (68 + 2 * u))] [.int (fdg 5)] (mm (up2 I 67 5 (I 67 5 + nI 1)) J t) _
        exact zV_ireturn dX6_copy_59 rfl rfl (PC.tell hC hw (by unfold op_copy; rw [if_pos h4, if_pos h11, tn_nI (show s < 2 ^ 31 by omega), tn_nI (show u < 2 ^ 31 by omega), if_pos h42]) (fun _ _ => rfl))
      · skip
        refine zV_aload dX6_copy_45 rfl 7 rfl ?_
        refine zV_callV (E' := eX4_isMissing (g_rmv 0)) (av := []) (st := []) (b := (68 + 2 * u)) dX6_copy_47 rfl (k_RX6_272 _) rfl ⟨by decide, by decide⟩ ⟨by decide, by decide⟩ (Or.inl rfl) rfl (Nat.le_of_ble_eq_true rfl) (sh_sheet (by omega)) rfl rfl (c_isMissing (s := u) (b := S.2.2.2.2.2.1 u) hu4 (hC.2.2.2.2.2.2 u hu4).1 (by omega)) (fun r47 M47 z => ?_)
        obtain ⟨rfl, rfl⟩ := z
        show zV G (eX6_copy (g_rmv 2)) (0, 0) 50 [(0, .ref 0), (1, .int (nI s)), (2, .int f), (3, .int (nI u)), (4, .int q), (5, .int n), (6, .ref (68 + 2 * s)), (7, .ref (68 + 2 * u))] [.int (b2 (S.2.2.2.2.2.1 u = 0))] (mm I J t) _
        refine zB_if_eq (tgt := 60) dX6_copy_50 rfl rfl  (fun h50 => ?_) (fun h50 => ?_)
        · refine zV_aload dX6_copy_60 rfl 6 rfl ?_
          refine zV_getI (x := (nI (S.2.2.2.2.2.1 s))) 1 dX6_copy_62 rfl fl_RX6_276 (sh_sheet (by omega)) (by decide) rfl ((hC.2.2.2.2.2.2 s hs4).1) ?_
          refine zV_aload dX6_copy_65 rfl 7 rfl ?_
          refine zV_getI (x := (nI (S.2.2.2.2.2.1 u))) 1 dX6_copy_67 rfl fl_RX6_276 (sh_sheet (by omega)) (by decide) rfl ((hC.2.2.2.2.2.2 u hu4).1) ?_
          refine zN_icmp_eq (tgt := 80) dX6_copy_70 rfl rfl (by omega) (by omega) (fun h70 => ?_) (fun h70 => ?_)
          · refine zV_aload dX6_copy_80 rfl 6 rfl ?_
            refine zV_iload_n dX6_copy_82 rfl 2 rfl rfl ?_
            refine zV_iload dX6_copy_83 rfl 5 rfl ?_
            refine zV_callV (E' := eX4_hasRow (g_rmv 0)) (av := [.int f, .int n]) (st := []) (b := (68 + 2 * s)) dX6_copy_85 rfl (k_RX6_279 _) rfl ⟨by decide, by decide⟩ ⟨by decide, by decide⟩ (Or.inl rfl) rfl (Nat.le_of_ble_eq_true rfl) (sh_sheet (by omega)) rfl rfl (c_hasRow (s := s) (z := S.2.2.2.2.2.2.1 s) (a := f) (n := n) hs4 (hC.2.2.2.2.2.2 s hs4).2.1) (fun r85 M85 z => ?_)
            obtain ⟨rfl, rfl⟩ := z
            show zV G (eX6_copy (g_rmv 2)) (0, 0) 88 [(0, .ref 0), (1, .int (nI s)), (2, .int f), (3, .int (nI u)), (4, .int q), (5, .int n), (6, .ref (68 + 2 * s)), (7, .ref (68 + 2 * u))] [.int (b2 (hasR (S.2.2.2.2.2.2.1 s) f n))] (mm I J t) _
            refine zB_if_eq (tgt := 103) dX6_copy_88 rfl rfl  (fun h88 => ?_) (fun h88 => ?_)
            · refine zV_aload_n dX6_copy_103 rfl 0 rfl rfl ?_
              refine zV_ldc (v := (-1000001)) dX6_copy_104 rfl tw264 ?_
              refine zV_callV (E' := eX6_tell (g_rmv 1)) (av := [.int (-1000001)]) (st := []) (b := 0) dX6_copy_106 rfl (k_RX6_70 _) rfl ⟨by decide, by decide⟩ ⟨by decide, by decide⟩ (Or.inl rfl) rfl (Nat.le_of_ble_eq_true rfl) rfl rfl rfl (c_tell (w := 0) (by decide) (by decide)) (fun r106 M106 z => ?_)
              obtain ⟨rfl, rfl⟩ := z
              show zV G (eX6_copy (g_rmv 2)) (0, 0) 109 [(0, .ref 0), (1, .int (nI s)), (2, .int f), (3, .int (nI u)), (4, .int q), (5, .int n), (6, .ref (68 + 2 * s)), (7, .ref (68 + 2 * u))] [.int (fdg 0)] (mm (up2 I 67 0 (I 67 0 + nI 1)) J t) _
              exact zV_ireturn dX6_copy_109 rfl rfl (PC.tell hC hw (by unfold op_copy; rw [if_pos h4, if_pos h11, tn_nI (show s < 2 ^ 31 by omega), tn_nI (show u < 2 ^ 31 by omega), if_neg h42, if_neg h50, if_pos h70, if_neg (fun z => h88 z.1)]) (fun _ _ => rfl))
            · refine zV_aload dX6_copy_91 rfl 7 rfl ?_
              refine zV_iload dX6_copy_93 rfl 4 rfl ?_
              refine zV_iload dX6_copy_95 rfl 5 rfl ?_
              refine zV_callV (E' := eX4_hasRow (g_rmv 0)) (av := [.int q, .int n]) (st := []) (b := (68 + 2 * u)) dX6_copy_97 rfl (k_RX6_279 _) rfl ⟨by decide, by decide⟩ ⟨by decide, by decide⟩ (Or.inl rfl) rfl (Nat.le_of_ble_eq_true rfl) (sh_sheet (by omega)) rfl rfl (c_hasRow (s := u) (z := S.2.2.2.2.2.2.1 u) (a := q) (n := n) hu4 (hC.2.2.2.2.2.2 u hu4).2.1) (fun r97 M97 z => ?_)
              obtain ⟨rfl, rfl⟩ := z
              show zV G (eX6_copy (g_rmv 2)) (0, 0) 100 [(0, .ref 0), (1, .int (nI s)), (2, .int f), (3, .int (nI u)), (4, .int q), (5, .int n), (6, .ref (68 + 2 * s)), (7, .ref (68 + 2 * u))] [.int (b2 (hasR (S.2.2.2.2.2.2.1 u) q n))] (mm I J t) _
              refine zB_if_ne (tgt := 110) dX6_copy_100 rfl rfl  (fun h100 => ?_) (fun h100 => ?_)
              · obtain ⟨i, m, rfl, rfl, him⟩ := (hasR_iff zs).mp h88
                obtain ⟨j, m2, rfl, e2, hjm⟩ := (hasR_iff zu).mp h100
                have e3 : m2 = m := by have h9 := congrArg tn e2; rw [tn_nI (by omega), tn_nI (by omega)] at h9; exact h9.symm
                subst e3
                refine zV_aload dX6_copy_110 rfl 6 rfl ?_
                refine zV_getrX (q' := (69 + 2 * s)) 0 dX6_copy_112 rfl fl_RX6_282 (sh_sheet (by omega)) (by decide) rfl (R_nums (by omega)) ?_
                refine zV_iload_n dX6_copy_115 rfl 2 rfl rfl ?_
                refine zV_aload dX6_copy_116 rfl 7 rfl ?_
                refine zV_getrX (q' := (69 + 2 * u)) 0 dX6_copy_118 rfl fl_RX6_282 (sh_sheet (by omega)) (by decide) rfl (R_nums (by omega)) ?_
                refine zV_iload dX6_copy_121 rfl 4 rfl ?_
                refine zV_iload dX6_copy_123 rfl 5 rfl ?_
                refine zV_copyI i j m2 dX6_copy_125 rfl ka_RX6_285 (sh_nums hs4) (sh_nums hu4) rfl rfl rfl (by omega) (by omega) (by decide) (by decide) (by decide) (by decide) (fun I2 hO hS => ?_)
                show zV G (eX6_copy (g_rmv 2)) (0, 0) 128 [(0, .ref 0), (1, .int (nI s)), (2, .int (nI i)), (3, .int (nI u)), (4, .int (nI j)), (5, .int (nI m2)), (6, .ref (68 + 2 * s)), (7, .ref (68 + 2 * u))] [] (mm I2 J t) _
                refine zV_iload dX6_copy_128 rfl 5 rfl ?_
                exact zV_ireturn dX6_copy_130 rfl rfl (⟨_, _, _, by rw [show op_copy S (nI s) (nI i) (nI u) (nI j) (nI m2) = (nI m2, st_s S S.2.2.2.2.2.1 S.2.2.2.2.2.2.1 (upN S.2.2.2.2.2.2.2 u (cpN (S.2.2.2.2.2.2.2 s) (S.2.2.2.2.2.2.2 u) i j m2))) by unfold op_copy; rw [if_pos h4, if_pos h11, tn_nI (show s < 2 ^ 31 by omega), tn_nI (show u < 2 ^ 31 by omega), if_neg h42, if_neg h50, if_pos h70, if_pos (show hasR _ _ _ ∧ hasR _ _ _ from ⟨h88, h100⟩), tn_nI (show i < 2 ^ 31 by omega), tn_nI (show j < 2 ^ 31 by omega), tn_nI (show m2 < 2 ^ 31 by omega)]], rfl, by rw [show op_copy S (nI s) (nI i) (nI u) (nI j) (nI m2) = (nI m2, st_s S S.2.2.2.2.2.1 S.2.2.2.2.2.2.1 (upN S.2.2.2.2.2.2.2 u (cpN (S.2.2.2.2.2.2.2 s) (S.2.2.2.2.2.2.2 u) i j m2))) by unfold op_copy; rw [if_pos h4, if_pos h11, tn_nI (show s < 2 ^ 31 by omega), tn_nI (show u < 2 ^ 31 by omega), if_neg h42, if_neg h50, if_pos h70, if_pos (show hasR _ _ _ ∧ hasR _ _ _ from ⟨h88, h100⟩), tn_nI (show i < 2 ^ 31 by omega), tn_nI (show j < 2 ^ 31 by omega), tn_nI (show m2 < 2 ^ 31 by omega)]]; have h9 := hC.sheet (I' := I2) (b := S.2.2.2.2.2.1 u) (z := S.2.2.2.2.2.2.1 u) (n := cpN (S.2.2.2.2.2.2.2 s) (S.2.2.2.2.2.2.2 u) i j m2) hw hu4 (by rw [hO _ (by omega)]; exact (hC.2.2.2.2.2.2 u hu4).1) (by rw [hO _ (by omega)]; exact (hC.2.2.2.2.2.2 u hu4).2.1) (fun a ha => by rw [hS a]; unfold cpN; by_cases e : j ≤ a ∧ a < j + m2; (· rw [if_pos e, pk_cpy_in e.1 e.2]; exact (hC.2.2.2.2.2.2 s hs4).2.2 _ (by omega)); (· rw [if_neg e, pk_cpy_out (by omega)]; exact (hC.2.2.2.2.2.2 u hu4).2.2 a ha)) (fun a _ h2 _ => hO a h2); rwa [upN_self, upN_self] at h9, fun a ha => hO a (by omega)⟩)
              · refine zV_aload_n dX6_copy_103 rfl 0 rfl rfl ?_
                refine zV_ldc (v := (-1000001)) dX6_copy_104 rfl tw264 ?_
                refine zV_callV (E' := eX6_tell (g_rmv 1)) (av := [.int (-1000001)]) (st := []) (b := 0) dX6_copy_106 rfl (k_RX6_70 _) rfl ⟨by decide, by decide⟩ ⟨by decide, by decide⟩ (Or.inl rfl) rfl (Nat.le_of_ble_eq_true rfl) rfl rfl rfl (c_tell (w := 0) (by decide) (by decide)) (fun r106 M106 z => ?_)
                obtain ⟨rfl, rfl⟩ := z
                show zV G (eX6_copy (g_rmv 2)) (0, 0) 109 [(0, .ref 0), (1, .int (nI s)), (2, .int f), (3, .int (nI u)), (4, .int q), (5, .int n), (6, .ref (68 + 2 * s)), (7, .ref (68 + 2 * u))] [.int (fdg 0)] (mm (up2 I 67 0 (I 67 0 + nI 1)) J t) _
                exact zV_ireturn dX6_copy_109 rfl rfl (PC.tell hC hw (by unfold op_copy; rw [if_pos h4, if_pos h11, tn_nI (show s < 2 ^ 31 by omega), tn_nI (show u < 2 ^ 31 by omega), if_neg h42, if_neg h50, if_pos h70, if_neg (fun z => h100 z.2)]) (fun _ _ => rfl))
          · refine zV_aload_n dX6_copy_73 rfl 0 rfl rfl ?_
            refine zV_ldc (v := (-1000003)) dX6_copy_74 rfl tw787 ?_
            refine zV_callV (E' := eX6_tell (g_rmv 1)) (av := [.int (-1000003)]) (st := []) (b := 0) dX6_copy_76 rfl (k_RX6_70 _) rfl ⟨by decide, by decide⟩ ⟨by decide, by decide⟩ (Or.inl rfl) rfl (Nat.le_of_ble_eq_true rfl) rfl rfl rfl (c_tell (w := 2) (by decide) (by decide)) (fun r76 M76 z => ?_)
            obtain ⟨rfl, rfl⟩ := z
            show zV G (eX6_copy (g_rmv 2)) (0, 0) 79 [(0, .ref 0), (1, .int (nI s)), (2, .int f), (3, .int (nI u)), (4, .int q), (5, .int n), (6, .ref (68 + 2 * s)), (7, .ref (68 + 2 * u))] [.int (fdg 2)] (mm (up2 I 67 2 (I 67 2 + nI 1)) J t) _
            exact zV_ireturn dX6_copy_79 rfl rfl (PC.tell hC hw (by unfold op_copy; rw [if_pos h4, if_pos h11, tn_nI (show s < 2 ^ 31 by omega), tn_nI (show u < 2 ^ 31 by omega), if_neg h42, if_neg h50, if_neg h70]) (fun _ _ => rfl))
        · refine zV_aload_n dX6_copy_53 rfl 0 rfl rfl ?_
          refine zV_ldc (v := (-1000006)) dX6_copy_54 rfl tw780 ?_
          refine zV_callV (E' := eX6_tell (g_rmv 1)) (av := [.int (-1000006)]) (st := []) (b := 0) dX6_copy_56 rfl (k_RX6_70 _) rfl ⟨by decide, by decide⟩ ⟨by decide, by decide⟩ (Or.inl rfl) rfl (Nat.le_of_ble_eq_true rfl) rfl rfl rfl (c_tell (w := 5) (by decide) (by decide)) (fun r56 M56 z => ?_)
          obtain ⟨rfl, rfl⟩ := z
          show zV G (eX6_copy (g_rmv 2)) (0, 0) 59 [(0, .ref 0), (1, .int (nI s)), (2, .int f), (3, .int (nI u)), (4, .int q), (5, .int n), (6, .ref (68 + 2 * s)), (7, .ref (68 + 2 * u))] [.int (fdg 5)] (mm (up2 I 67 5 (I 67 5 + nI 1)) J t) _
          exact zV_ireturn dX6_copy_59 rfl rfl (PC.tell hC hw (by unfold op_copy; rw [if_pos h4, if_pos h11, tn_nI (show s < 2 ^ 31 by omega), tn_nI (show u < 2 ^ 31 by omega), if_neg h42, if_pos h50]) (fun _ _ => rfl))
    · refine zV_aload_n dX6_copy_14 rfl 0 rfl rfl ?_
      refine zV_ldc (v := (-1000001)) dX6_copy_15 rfl tw264 ?_
      refine zV_callV (E' := eX6_tell (g_rmv 1)) (av := [.int (-1000001)]) (st := []) (b := 0) dX6_copy_17 rfl (k_RX6_70 _) rfl ⟨by decide, by decide⟩ ⟨by decide, by decide⟩ (Or.inl rfl) rfl (Nat.le_of_ble_eq_true rfl) rfl rfl rfl (c_tell (w := 0) (by decide) (by decide)) (fun r17 M17 z => ?_)
      obtain ⟨rfl, rfl⟩ := z
      show zV G (eX6_copy (g_rmv 2)) (0, 0) 20 [(0, .ref 0), (1, .int x), (2, .int f), (3, .int y), (4, .int q), (5, .int n)] [.int (fdg 0)] (mm (up2 I 67 0 (I 67 0 + nI 1)) J t) _
      exact zV_ireturn dX6_copy_20 rfl rfl (PC.tell hC hw (by unfold op_copy; rw [if_pos h4, if_neg h11]) (fun _ _ => rfl))

set_option maxRecDepth 100000 in
theorem q_copy {G : mG} {I : Nat → Nat → Int32} {J : Nat → Nat → Int64} {t : Nat} {B : Nat} {S : aS} (hM : InvM I S) (hw : wfS B S) {x f y q n : Int32} : zC G yX7_copy (eX7_copy (g_rmv 2)) [.ref 76, .int x, .int f, .int y, .int q, .int n] (mm I J t) (fun r M => PM I (op_copy S x f y q n) r M) := by
  refine zC_of (by decide +kernel) rfl (by decide) (Nat.le_of_ble_eq_true rfl) ?_
  have n10 := hw.1.1
  show zV G (eX7_copy (g_rmv 2)) (0, 0) 0 [(0, .ref 76), (1, .int x), (2, .int f), (3, .int y), (4, .int q), (5, .int n)] [] (mm I J t) _
  refine zV_iload_n dX7_copy_0 rfl 1 rfl rfl ?_
  refine zV_callS (E' := eX7_isSheet (g_rmv 1)) (av := [.int x]) (st := []) dX7_copy_1 rfl (k_RX7_305 _) rfl ⟨by decide, by decide⟩ ⟨by decide, by decide⟩ (Or.inl rfl) rfl (Nat.le_of_ble_eq_true rfl) (m_isSheet (x := x)) (fun r1 M1 z => ?_)
  obtain ⟨rfl, rfl⟩ := z
  show zV G (eX7_copy (g_rmv 2)) (0, 0) 4 [(0, .ref 76), (1, .int x), (2, .int f), (3, .int y), (4, .int q), (5, .int n)] [.int (b2 (inR x 3))] (mm I J t) _
  refine zB_if_eq (tgt := 14) dX7_copy_4 rfl rfl  (fun h4 => ?_) (fun h4 => ?_)
  · refine zV_aload_n dX7_copy_14 rfl 0 rfl rfl ?_
    refine zV_ldc (v := (-1000001)) dX7_copy_15 rfl tw970 ?_
    refine zV_callV (E' := eX7_finding (g_rmv 0)) (av := [.int (-1000001)]) (st := []) (b := 76) dX7_copy_17 rfl (k_RX7_87 _) rfl ⟨by decide, by decide⟩ ⟨by decide, by decide⟩ (Or.inl rfl) rfl (Nat.le_of_ble_eq_true rfl) rfl rfl rfl (m_finding (w := 0) (by decide) (by decide)) (fun r17 M17 z => ?_)
    obtain ⟨rfl, rfl⟩ := z
    show zV G (eX7_copy (g_rmv 2)) (0, 0) 20 [(0, .ref 76), (1, .int x), (2, .int f), (3, .int y), (4, .int q), (5, .int n)] [.int (fdg 0)] (mm (mTell I 0) J t) _
    exact zV_ireturn dX7_copy_20 rfl rfl (PM.tell hM (by decide) (by unfold op_copy; rw [if_neg h4]) scM.rf)
  · refine zV_iload_n dX7_copy_7 rfl 3 rfl rfl ?_
    refine zV_callS (E' := eX7_isSheet (g_rmv 1)) (av := [.int y]) (st := []) dX7_copy_8 rfl (k_RX7_305 _) rfl ⟨by decide, by decide⟩ ⟨by decide, by decide⟩ (Or.inl rfl) rfl (Nat.le_of_ble_eq_true rfl) (m_isSheet (x := y)) (fun r8 M8 z => ?_)
    obtain ⟨rfl, rfl⟩ := z
    show zV G (eX7_copy (g_rmv 2)) (0, 0) 11 [(0, .ref 76), (1, .int x), (2, .int f), (3, .int y), (4, .int q), (5, .int n)] [.int (b2 (inR y 3))] (mm I J t) _
    refine zB_if_ne (tgt := 21) dX7_copy_11 rfl rfl  (fun h11 => ?_) (fun h11 => ?_)
    · obtain ⟨s, hs3, rfl⟩ := (inR_iff (by decide)).mp h4
      obtain ⟨u, hu3, rfl⟩ := (inR_iff (by decide)).mp h11
      have hs4 : s < 4 := by omega
      have hu4 : u < 4 := by omega
      have bs := (hw.2.2.2.2.2.1 s hs4).1
      have zs := (hw.2.2.2.2.2.1 s hs4).2
      have bu := (hw.2.2.2.2.2.1 u hu4).1
      have zu := (hw.2.2.2.2.2.1 u hu4).2
      refine zV_aload_n dX7_copy_21 rfl 0 rfl rfl ?_
      refine zV_getr (q' := 86) 21 dX7_copy_22 rfl fl_RX7_55 rfl (by decide) rfl rfl ?_
      refine zV_iload_n dX7_copy_25 rfl 1 rfl rfl ?_
      refine zV_iald (x := (nI (S.2.2.2.2.2.1 s))) s dX7_copy_26 rfl rfl rfl (by omega) (by decide) ((hM.2.2.2.2.2.2 s hs4).1) ?_
      refine zN_if_eq (tgt := 39) dX7_copy_27 rfl rfl (by omega) (fun h27 => ?_) (fun h27 => ?_)
      · skip
        refine zV_aload_n dX7_copy_39 rfl 0 rfl rfl ?_
        refine zV_ldcw (v := (-1000006)) dX7_copy_40 rfl tw1329 ?_
        refine zV_callV (E' := eX7_finding (g_rmv 0)) (av := [.int (-1000006)]) (st := []) (b := 76) dX7_copy_43 rfl (k_RX7_87 _) rfl ⟨by decide, by decide⟩ ⟨by decide, by decide⟩ (Or.inl rfl) rfl (Nat.le_of_ble_eq_true rfl) rfl rfl rfl (m_finding (w := 5) (by decide) (by decide)) (fun r43 M43 z => ?_)
        obtain ⟨rfl, rfl⟩ := z
        show zV G (eX7_copy (g_rmv 2)) (0, 0) 46 [(0, .ref 76), (1, .int (nI s)), (2, .int f), (3, .int (nI u)), (4, .int q), (5, .int n)] [.int (fdg 5)] (mm (mTell I 5) J t) _
        exact zV_ireturn dX7_copy_46 rfl rfl (PM.tell hM (by decide) (by unfold op_copy; rw [if_pos h4, if_pos h11, tn_nI (show s < 2 ^ 31 by omega), tn_nI (show u < 2 ^ 31 by omega), if_pos h27]) scM.rf)
      · skip
        refine zV_aload_n dX7_copy_30 rfl 0 rfl rfl ?_
        refine zV_getr (q' := 86) 21 dX7_copy_31 rfl fl_RX7_55 rfl (by decide) rfl rfl ?_
        refine zV_iload_n dX7_copy_34 rfl 3 rfl rfl ?_
        refine zV_iald (x := (nI (S.2.2.2.2.2.1 u))) u dX7_copy_35 rfl rfl rfl (by omega) (by decide) ((hM.2.2.2.2.2.2 u hu4).1) ?_
        refine zN_if_ne (tgt := 47) dX7_copy_36 rfl rfl (by omega) (fun h36 => ?_) (fun h36 => ?_)
        · refine zV_aload_n dX7_copy_47 rfl 0 rfl rfl ?_
          refine zV_getr (q' := 86) 21 dX7_copy_48 rfl fl_RX7_55 rfl (by decide) rfl rfl ?_
          refine zV_iload_n dX7_copy_51 rfl 1 rfl rfl ?_
          refine zV_iald (x := (nI (S.2.2.2.2.2.1 s))) s dX7_copy_52 rfl rfl rfl (by omega) (by decide) ((hM.2.2.2.2.2.2 s hs4).1) ?_
          refine zV_aload_n dX7_copy_53 rfl 0 rfl rfl ?_
          refine zV_getr (q' := 86) 21 dX7_copy_54 rfl fl_RX7_55 rfl (by decide) rfl rfl ?_
          refine zV_iload_n dX7_copy_57 rfl 3 rfl rfl ?_
          refine zV_iald (x := (nI (S.2.2.2.2.2.1 u))) u dX7_copy_58 rfl rfl rfl (by omega) (by decide) ((hM.2.2.2.2.2.2 u hu4).1) ?_
          refine zN_icmp_eq (tgt := 70) dX7_copy_59 rfl rfl (by omega) (by omega) (fun h59 => ?_) (fun h59 => ?_)
          · refine zV_iload_n dX7_copy_70 rfl 2 rfl rfl ?_
            refine zV_if_lt (tgt := 119) dX7_copy_71 rfl rfl  (fun h71 => ?_) (fun h71 => ?_)
            · skip
              refine zV_aload_n dX7_copy_119 rfl 0 rfl rfl ?_
              refine zV_ldc (v := (-1000001)) dX7_copy_120 rfl tw970 ?_
              refine zV_callV (E' := eX7_finding (g_rmv 0)) (av := [.int (-1000001)]) (st := []) (b := 76) dX7_copy_122 rfl (k_RX7_87 _) rfl ⟨by decide, by decide⟩ ⟨by decide, by decide⟩ (Or.inl rfl) rfl (Nat.le_of_ble_eq_true rfl) rfl rfl rfl (m_finding (w := 0) (by decide) (by decide)) (fun r122 M122 z => ?_)
              obtain ⟨rfl, rfl⟩ := z
              show zV G (eX7_copy (g_rmv 2)) (0, 0) 125 [(0, .ref 76), (1, .int (nI s)), (2, .int f), (3, .int (nI u)), (4, .int q), (5, .int n)] [.int (fdg 0)] (mm (mTell I 0) J t) _
              exact zV_ireturn dX7_copy_125 rfl rfl (PM.tell hM (by decide) (by unfold op_copy; rw [if_pos h4, if_pos h11, tn_nI (show s < 2 ^ 31 by omega), tn_nI (show u < 2 ^ 31 by omega), if_neg h27, if_neg h36, if_pos h59, if_neg (fun z => absurd z.1.1 (Int32.not_le.mpr h71))]) scM.rf)
            · skip
              refine zV_iload dX7_copy_74 rfl 4 rfl ?_
              refine zV_if_lt (tgt := 119) dX7_copy_76 rfl rfl  (fun h76 => ?_) (fun h76 => ?_)
              · skip
                refine zV_aload_n dX7_copy_119 rfl 0 rfl rfl ?_
                refine zV_ldc (v := (-1000001)) dX7_copy_120 rfl tw970 ?_
                refine zV_callV (E' := eX7_finding (g_rmv 0)) (av := [.int (-1000001)]) (st := []) (b := 76) dX7_copy_122 rfl (k_RX7_87 _) rfl ⟨by decide, by decide⟩ ⟨by decide, by decide⟩ (Or.inl rfl) rfl (Nat.le_of_ble_eq_true rfl) rfl rfl rfl (m_finding (w := 0) (by decide) (by decide)) (fun r122 M122 z => ?_)
                obtain ⟨rfl, rfl⟩ := z
                show zV G (eX7_copy (g_rmv 2)) (0, 0) 125 [(0, .ref 76), (1, .int (nI s)), (2, .int f), (3, .int (nI u)), (4, .int q), (5, .int n)] [.int (fdg 0)] (mm (mTell I 0) J t) _
                exact zV_ireturn dX7_copy_125 rfl rfl (PM.tell hM (by decide) (by unfold op_copy; rw [if_pos h4, if_pos h11, tn_nI (show s < 2 ^ 31 by omega), tn_nI (show u < 2 ^ 31 by omega), if_neg h27, if_neg h36, if_pos h59, if_neg (fun z => absurd z.2.1 (Int32.not_le.mpr h76))]) scM.rf)
              · skip
                refine zV_iload dX7_copy_79 rfl 5 rfl ?_
                refine zV_if_lt (tgt := 119) dX7_copy_81 rfl rfl  (fun h81 => ?_) (fun h81 => ?_)
                · skip
                  refine zV_aload_n dX7_copy_119 rfl 0 rfl rfl ?_
                  refine zV_ldc (v := (-1000001)) dX7_copy_120 rfl tw970 ?_
                  refine zV_callV (E' := eX7_finding (g_rmv 0)) (av := [.int (-1000001)]) (st := []) (b := 76) dX7_copy_122 rfl (k_RX7_87 _) rfl ⟨by decide, by decide⟩ ⟨by decide, by decide⟩ (Or.inl rfl) rfl (Nat.le_of_ble_eq_true rfl) rfl rfl rfl (m_finding (w := 0) (by decide) (by decide)) (fun r122 M122 z => ?_)
                  obtain ⟨rfl, rfl⟩ := z
                  show zV G (eX7_copy (g_rmv 2)) (0, 0) 125 [(0, .ref 76), (1, .int (nI s)), (2, .int f), (3, .int (nI u)), (4, .int q), (5, .int n)] [.int (fdg 0)] (mm (mTell I 0) J t) _
                  exact zV_ireturn dX7_copy_125 rfl rfl (PM.tell hM (by decide) (by unfold op_copy; rw [if_pos h4, if_pos h11, tn_nI (show s < 2 ^ 31 by omega), tn_nI (show u < 2 ^ 31 by omega), if_neg h27, if_neg h36, if_pos h59, if_neg (fun z => absurd z.1.2.1 (Int32.not_le.mpr h81))]) scM.rf)
                · obtain ⟨i, hi, rfl⟩ := nI_of h71
                  obtain ⟨j, hj, rfl⟩ := nI_of h76
                  obtain ⟨m, hm, rfl⟩ := nI_of h81
                  refine zV_iload_n dX7_copy_84 rfl 2 rfl rfl ?_
                  refine zA_i2l (z := (lN i)) dX7_copy_85 rfl (nI_l (by omega)) ?_
                  refine zV_iload dX7_copy_86 rfl 5 rfl ?_
                  refine zA_i2l (z := (lN m)) dX7_copy_88 rfl (nI_l (by omega)) ?_
                  refine zA_ladd (z := (lN (i + m))) dX7_copy_89 rfl  (lN_add _ _) ?_
                  refine zV_aload_n dX7_copy_90 rfl 0 rfl rfl ?_
                  refine zV_getr (q' := 87) 22 dX7_copy_91 rfl fl_RX7_58 rfl (by decide) rfl rfl ?_
                  refine zV_iload_n dX7_copy_94 rfl 1 rfl rfl ?_
                  refine zV_iald (x := (nI (S.2.2.2.2.2.2.1 s))) s dX7_copy_95 rfl rfl rfl (by omega) (by decide) ((hM.2.2.2.2.2.2 s hs4).2.1) ?_
                  refine zA_i2l (z := (lN (S.2.2.2.2.2.2.1 s))) dX7_copy_96 rfl (nI_l (by omega)) ?_
                  refine zA_lcmp (z := (lg_cmp (lN (i + m)) (lN (S.2.2.2.2.2.2.1 s)))) dX7_copy_97 rfl  (rfl) ?_
                  refine zV_if_gt (tgt := 119) dX7_copy_98 rfl rfl  (fun h98 => ?_) (fun h98 => ?_)
                  · have g98 : S.2.2.2.2.2.2.1 s < i + m := (pk_lLT (by omega) (by omega)).mp ((lgc _ _).mp h98)
                    have nb : ¬ (hasR (S.2.2.2.2.2.2.1 s) (nI i) (nI m) ∧ hasR (S.2.2.2.2.2.2.1 u) (nI j) (nI m)) := fun z => by obtain ⟨a, b, e1, e2, hab⟩ := (hasR_iff zs).mp z.1; have e3 := congrArg tn e1; have e4 := congrArg tn e2; rw [tn_nI (by omega), tn_nI (by omega)] at e3 e4; omega
                    refine zV_aload_n dX7_copy_119 rfl 0 rfl rfl ?_
                    refine zV_ldc (v := (-1000001)) dX7_copy_120 rfl tw970 ?_
                    refine zV_callV (E' := eX7_finding (g_rmv 0)) (av := [.int (-1000001)]) (st := []) (b := 76) dX7_copy_122 rfl (k_RX7_87 _) rfl ⟨by decide, by decide⟩ ⟨by decide, by decide⟩ (Or.inl rfl) rfl (Nat.le_of_ble_eq_true rfl) rfl rfl rfl (m_finding (w := 0) (by decide) (by decide)) (fun r122 M122 z => ?_)
                    obtain ⟨rfl, rfl⟩ := z
                    show zV G (eX7_copy (g_rmv 2)) (0, 0) 125 [(0, .ref 76), (1, .int (nI s)), (2, .int (nI i)), (3, .int (nI u)), (4, .int (nI j)), (5, .int (nI m))] [.int (fdg 0)] (mm (mTell I 0) J t) _
                    exact zV_ireturn dX7_copy_125 rfl rfl (PM.tell hM (by decide) (by unfold op_copy; rw [if_pos h4, if_pos h11, tn_nI (show s < 2 ^ 31 by omega), tn_nI (show u < 2 ^ 31 by omega), if_neg h27, if_neg h36, if_pos h59, if_neg nb]) scM.rf)
                  · have g98 : i + m ≤ S.2.2.2.2.2.2.1 s := Nat.not_lt.mp (fun z => h98 ((lgc _ _).mpr ((pk_lLT (by omega) (by omega)).mpr z)))
                    refine zV_iload dX7_copy_101 rfl 4 rfl ?_
                    refine zA_i2l (z := (lN j)) dX7_copy_103 rfl (nI_l (by omega)) ?_
                    refine zV_iload dX7_copy_104 rfl 5 rfl ?_
                    refine zA_i2l (z := (lN m)) dX7_copy_106 rfl (nI_l (by omega)) ?_
                    refine zA_ladd (z := (lN (j + m))) dX7_copy_107 rfl  (lN_add _ _) ?_
                    refine zV_aload_n dX7_copy_108 rfl 0 rfl rfl ?_
                    refine zV_getr (q' := 87) 22 dX7_copy_109 rfl fl_RX7_58 rfl (by decide) rfl rfl ?_
                    refine zV_iload_n dX7_copy_112 rfl 3 rfl rfl ?_
                    refine zV_iald (x := (nI (S.2.2.2.2.2.2.1 u))) u dX7_copy_113 rfl rfl rfl (by omega) (by decide) ((hM.2.2.2.2.2.2 u hu4).2.1) ?_
                    refine zA_i2l (z := (lN (S.2.2.2.2.2.2.1 u))) dX7_copy_114 rfl (nI_l (by omega)) ?_
                    refine zA_lcmp (z := (lg_cmp (lN (j + m)) (lN (S.2.2.2.2.2.2.1 u)))) dX7_copy_115 rfl  (rfl) ?_
                    refine zV_if_le (tgt := 126) dX7_copy_116 rfl rfl  (fun h116 => ?_) (fun h116 => ?_)
                    · have g116 : j + m ≤ S.2.2.2.2.2.2.1 u := Nat.not_lt.mp (fun z => (Int32.not_le.mpr ((lgc _ _).mpr ((pk_lLT (by omega) (by omega)).mpr z))) h116)
                      refine zV_iconst (v := (nI 0)) dX7_copy_126 rfl rfl ?_
                      refine zV_istore (lv' := [(0, .ref 76), (1, .int (nI s)), (2, .int (nI i)), (3, .int (nI u)), (4, .int (nI j)), (5, .int (nI m)), (6, .int (nI 0))]) dX7_copy_127 rfl (by decide) rfl ?_
                      refine z_for (fun c => ∀ (I1 : Nat → Nat → Int32), ((∀ k, k < c → I1 89 k = I 88 (40 * s + i + k)) ∧ ∀ a, a ≠ 89 → I1 a = I a) → zV G (eX7_copy (g_rmv 2)) (0, 0) 129 [(0, .ref 76), (1, .int (nI s)), (2, .int (nI i)), (3, .int (nI u)), (4, .int (nI j)), (5, .int (nI m)), (6, .int (nI c))] [] (mm I1 J t) _) m ?_ ?_ 0 (Nat.zero_le _) I ⟨fun k h => absurd h (Nat.not_lt_zero _), fun _ _ => rfl⟩
                      · intro I1 h1
                        refine zV_iload dX7_copy_129 rfl 6 rfl ?_
                        refine zV_iload dX7_copy_131 rfl 5 rfl ?_
                        refine zN_icmp_ge (tgt := 163) dX7_copy_133 rfl rfl (by omega) (by omega) (fun _ => ?_) (fun z => absurd z (by omega))
                        refine zV_iconst (v := (nI 0)) dX7_copy_163 rfl rfl ?_
                        refine zV_istore (lv' := [(0, .ref 76), (1, .int (nI s)), (2, .int (nI i)), (3, .int (nI u)), (4, .int (nI j)), (5, .int (nI m)), (6, .int (nI 0))]) dX7_copy_164 rfl (by decide) rfl ?_
                        refine z_for (fun c => ∀ (I2 : Nat → Nat → Int32), ((∀ k, k < c → I2 88 (40 * u + j + k) = I 88 (40 * s + i + k)) ∧ (∀ a, (a < 40 * u + j ∨ 40 * u + j + c ≤ a) → I2 88 a = I 88 a) ∧ (∀ a, a ≠ 88 → a ≠ 89 → I2 a = I a) ∧ I2 89 = I1 89) → zV G (eX7_copy (g_rmv 2)) (0, 0) 166 [(0, .ref 76), (1, .int (nI s)), (2, .int (nI i)), (3, .int (nI u)), (4, .int (nI j)), (5, .int (nI m)), (6, .int (nI c))] [] (mm I2 J t) _) m ?_ ?_ 0 (Nat.zero_le _) I1 ⟨fun k h => absurd h (Nat.not_lt_zero _), fun a _ => by rw [h1.2 88 (by decide)], fun a _ h89 => h1.2 a h89, rfl⟩
                        · intro I2 h2
                          refine zV_iload dX7_copy_166 rfl 6 rfl ?_
                          refine zV_iload dX7_copy_168 rfl 5 rfl ?_
                          refine zN_icmp_ge (tgt := 201) dX7_copy_170 rfl rfl (by omega) (by omega) (fun _ => ?_) (fun z => absurd z (by omega))
                          refine zV_iload dX7_copy_201 rfl 5 rfl ?_
                          exact zV_ireturn dX7_copy_203 rfl rfl (⟨_, _, _, by rw [show op_copy S (nI s) (nI i) (nI u) (nI j) (nI m) = (nI m, st_s S S.2.2.2.2.2.1 S.2.2.2.2.2.2.1 (upN S.2.2.2.2.2.2.2 u (cpN (S.2.2.2.2.2.2.2 s) (S.2.2.2.2.2.2.2 u) i j m))) by unfold op_copy; rw [if_pos h4, if_pos h11, tn_nI (show s < 2 ^ 31 by omega), tn_nI (show u < 2 ^ 31 by omega), if_neg h27, if_neg h36, if_pos h59, if_pos (show hasR _ _ _ ∧ hasR _ _ _ from ⟨(hasR_iff zs).mpr ⟨i, m, rfl, rfl, g98⟩, (hasR_iff zu).mpr ⟨j, m, rfl, rfl, g116⟩⟩), tn_nI (show i < 2 ^ 31 by omega), tn_nI (show j < 2 ^ 31 by omega), tn_nI (show m < 2 ^ 31 by omega)]], rfl, by rw [show op_copy S (nI s) (nI i) (nI u) (nI j) (nI m) = (nI m, st_s S S.2.2.2.2.2.1 S.2.2.2.2.2.2.1 (upN S.2.2.2.2.2.2.2 u (cpN (S.2.2.2.2.2.2.2 s) (S.2.2.2.2.2.2.2 u) i j m))) by unfold op_copy; rw [if_pos h4, if_pos h11, tn_nI (show s < 2 ^ 31 by omega), tn_nI (show u < 2 ^ 31 by omega), if_neg h27, if_neg h36, if_pos h59, if_pos (show hasR _ _ _ ∧ hasR _ _ _ from ⟨(hasR_iff zs).mpr ⟨i, m, rfl, rfl, g98⟩, (hasR_iff zu).mpr ⟨j, m, rfl, rfl, g116⟩⟩), tn_nI (show i < 2 ^ 31 by omega), tn_nI (show j < 2 ^ 31 by omega), tn_nI (show m < 2 ^ 31 by omega)]]; have h9 := hM.sheet (I' := I2) (b := S.2.2.2.2.2.1 u) (z := S.2.2.2.2.2.2.1 u) (n := cpN (S.2.2.2.2.2.2.2 s) (S.2.2.2.2.2.2.2 u) i j m) hu4 (fun a => by rw [h2.2.2.1 86 (by decide) (by decide)]; by_cases e : a = u; (· rw [if_pos e, e]; exact (hM.2.2.2.2.2.2 u hu4).1); (· rw [if_neg e])) (fun a => by rw [h2.2.2.1 87 (by decide) (by decide)]; by_cases e : a = u; (· rw [if_pos e, e]; exact (hM.2.2.2.2.2.2 u hu4).2.1); (· rw [if_neg e])) (fun a ha => by unfold cpN; by_cases e : j ≤ a ∧ a < j + m; (· rw [if_pos e, show 40 * u + a = 40 * u + j + (a - j) by omega, h2.1 (a - j) (by omega), show 40 * s + i + (a - j) = 40 * s + (i + (a - j)) by omega]; exact (hM.2.2.2.2.2.2 s hs4).2.2 _ (by omega)); (· rw [if_neg e, h2.2.1 _ (by omega)]; exact (hM.2.2.2.2.2.2 u hu4).2.2 a ha)) (fun a b ha hau hb => h2.2.1 _ (by omega)) (fun a _ _ h88 h89 => h2.2.2.1 a h88 h89); rwa [upN_self, upN_self] at h9, fun a ha => h2.2.2.1 a (by omega) (by omega)⟩)
                        · intro c hc ih
                          intro I2 h2
                          refine zV_iload dX7_copy_166 rfl 6 rfl ?_
                          refine zV_iload dX7_copy_168 rfl 5 rfl ?_
                          refine zN_icmp_ge (tgt := 201) dX7_copy_170 rfl rfl (by omega) (by omega) (fun z => absurd z (by omega)) (fun _ => ?_)
                          refine zV_aload_n dX7_copy_173 rfl 0 rfl rfl ?_
                          refine zV_getr (q' := 88) 23 dX7_copy_174 rfl fl_RX7_61 rfl (by decide) rfl rfl ?_
                          refine zV_bipush (v := (nI 40)) dX7_copy_177 rfl rfl ?_
                          refine zV_iload_n dX7_copy_179 rfl 3 rfl rfl ?_
                          refine zA_imul (z := (nI (40 * u))) dX7_copy_180 rfl  (pk_mul _ _) ?_
                          refine zV_iload dX7_copy_181 rfl 4 rfl ?_
                          refine zA_iadd (z := (nI ((40 * u) + j))) dX7_copy_183 rfl  (nI_add _ _) ?_
                          refine zV_iload dX7_copy_184 rfl 6 rfl ?_
                          refine zA_iadd (z := (nI (((40 * u) + j) + c))) dX7_copy_186 rfl  (nI_add _ _) ?_
                          refine zV_aload_n dX7_copy_187 rfl 0 rfl rfl ?_
                          refine zV_getr (q' := 89) 24 dX7_copy_188 rfl fl_RX7_64 rfl (by decide) rfl rfl ?_
                          refine zV_iload dX7_copy_191 rfl 6 rfl ?_
                          refine zV_iald (x := (I 88 (40 * s + i + c))) c dX7_copy_193 rfl rfl rfl (by omega) (by decide) (by rw [h2.2.2.2]; exact h1.1 c (by omega)) ?_
                          refine zV_iastore (((40 * u) + j) + c) dX7_copy_194 rfl rfl rfl (by omega) (by decide)  ?_
                          refine zV_iinc (y := (nI (c + 1))) (lv' := [(0, .ref 76), (1, .int (nI s)), (2, .int (nI i)), (3, .int (nI u)), (4, .int (nI j)), (5, .int (nI m)), (6, .int (nI (c + 1)))]) dX7_copy_195 rfl 6 rfl (nI_1 _) (by decide) rfl ?_
                          refine zV_goto (tgt := 166) dX7_copy_198 rfl ?_
                          exact ih _ ⟨fun k hk => by
                              by_cases e : k = c
                              · rw [e, up2_same]
                              · rw [up2_nk (by omega)]; exact h2.1 k (by omega), fun a ha => by rw [up2_nk (by omega)]; exact h2.2.1 a (by omega), fun a h88 h89 => by rw [← h2.2.2.1 a h88 h89]; funext k; exact up2_ni h88, by rw [← h2.2.2.2]; funext k; exact up2_ni (by decide)⟩
                      · intro c hc ih
                        intro I1 h1
                        refine zV_iload dX7_copy_129 rfl 6 rfl ?_
                        refine zV_iload dX7_copy_131 rfl 5 rfl ?_
                        refine zN_icmp_ge (tgt := 163) dX7_copy_133 rfl rfl (by omega) (by omega) (fun z => absurd z (by omega)) (fun _ => ?_)
                        refine zV_aload_n dX7_copy_136 rfl 0 rfl rfl ?_
                        refine zV_getr (q' := 89) 24 dX7_copy_137 rfl fl_RX7_64 rfl (by decide) rfl rfl ?_
                        refine zV_iload dX7_copy_140 rfl 6 rfl ?_
                        refine zV_aload_n dX7_copy_142 rfl 0 rfl rfl ?_
                        refine zV_getr (q' := 88) 23 dX7_copy_143 rfl fl_RX7_61 rfl (by decide) rfl rfl ?_
                        refine zV_bipush (v := (nI 40)) dX7_copy_146 rfl rfl ?_
                        refine zV_iload_n dX7_copy_148 rfl 1 rfl rfl ?_
                        refine zA_imul (z := (nI (40 * s))) dX7_copy_149 rfl  (pk_mul _ _) ?_
                        refine zV_iload_n dX7_copy_150 rfl 2 rfl rfl ?_
                        refine zA_iadd (z := (nI ((40 * s) + i))) dX7_copy_151 rfl  (nI_add _ _) ?_
                        refine zV_iload dX7_copy_152 rfl 6 rfl ?_
                        refine zA_iadd (z := (nI (((40 * s) + i) + c))) dX7_copy_154 rfl  (nI_add _ _) ?_
                        refine zV_iald (x := (I 88 (((40 * s) + i) + c))) (((40 * s) + i) + c) dX7_copy_155 rfl rfl rfl (by omega) (by decide) (by rw [h1.2 88 (by decide)]) ?_
                        refine zV_iastore c dX7_copy_156 rfl rfl rfl (by omega) (by decide)  ?_
                        refine zV_iinc (y := (nI (c + 1))) (lv' := [(0, .ref 76), (1, .int (nI s)), (2, .int (nI i)), (3, .int (nI u)), (4, .int (nI j)), (5, .int (nI m)), (6, .int (nI (c + 1)))]) dX7_copy_157 rfl 6 rfl (nI_1 _) (by decide) rfl ?_
                        refine zV_goto (tgt := 129) dX7_copy_160 rfl ?_
                        exact ih _ ⟨fun k hk => by
                            by_cases e : k = c
                            · rw [e, up2_same]
                            · rw [up2_nk e]; exact h1.1 k (by omega), fun a ha => by rw [← h1.2 a ha]; funext k; exact up2_ni ha⟩
                    · have g116 : S.2.2.2.2.2.2.1 u < j + m := (pk_lLT (by omega) (by omega)).mp ((lgc _ _).mp (Int32.not_le.mp h116))
                      have nb : ¬ (hasR (S.2.2.2.2.2.2.1 s) (nI i) (nI m) ∧ hasR (S.2.2.2.2.2.2.1 u) (nI j) (nI m)) := fun z => by obtain ⟨a, b, e1, e2, hab⟩ := (hasR_iff zu).mp z.2; have e3 := congrArg tn e1; have e4 := congrArg tn e2; rw [tn_nI (by omega), tn_nI (by omega)] at e3 e4; omega
                      refine zV_aload_n dX7_copy_119 rfl 0 rfl rfl ?_
                      refine zV_ldc (v := (-1000001)) dX7_copy_120 rfl tw970 ?_
                      refine zV_callV (E' := eX7_finding (g_rmv 0)) (av := [.int (-1000001)]) (st := []) (b := 76) dX7_copy_122 rfl (k_RX7_87 _) rfl ⟨by decide, by decide⟩ ⟨by decide, by decide⟩ (Or.inl rfl) rfl (Nat.le_of_ble_eq_true rfl) rfl rfl rfl (m_finding (w := 0) (by decide) (by decide)) (fun r122 M122 z => ?_)
                      obtain ⟨rfl, rfl⟩ := z
                      show zV G (eX7_copy (g_rmv 2)) (0, 0) 125 [(0, .ref 76), (1, .int (nI s)), (2, .int (nI i)), (3, .int (nI u)), (4, .int (nI j)), (5, .int (nI m))] [.int (fdg 0)] (mm (mTell I 0) J t) _
                      exact zV_ireturn dX7_copy_125 rfl rfl (PM.tell hM (by decide) (by unfold op_copy; rw [if_pos h4, if_pos h11, tn_nI (show s < 2 ^ 31 by omega), tn_nI (show u < 2 ^ 31 by omega), if_neg h27, if_neg h36, if_pos h59, if_neg nb]) scM.rf)
          · refine zV_aload_n dX7_copy_62 rfl 0 rfl rfl ?_
            refine zV_ldcw (v := (-1000003)) dX7_copy_63 rfl tw1330 ?_
            refine zV_callV (E' := eX7_finding (g_rmv 0)) (av := [.int (-1000003)]) (st := []) (b := 76) dX7_copy_66 rfl (k_RX7_87 _) rfl ⟨by decide, by decide⟩ ⟨by decide, by decide⟩ (Or.inl rfl) rfl (Nat.le_of_ble_eq_true rfl) rfl rfl rfl (m_finding (w := 2) (by decide) (by decide)) (fun r66 M66 z => ?_)
            obtain ⟨rfl, rfl⟩ := z
            show zV G (eX7_copy (g_rmv 2)) (0, 0) 69 [(0, .ref 76), (1, .int (nI s)), (2, .int f), (3, .int (nI u)), (4, .int q), (5, .int n)] [.int (fdg 2)] (mm (mTell I 2) J t) _
            exact zV_ireturn dX7_copy_69 rfl rfl (PM.tell hM (by decide) (by unfold op_copy; rw [if_pos h4, if_pos h11, tn_nI (show s < 2 ^ 31 by omega), tn_nI (show u < 2 ^ 31 by omega), if_neg h27, if_neg h36, if_neg h59]) scM.rf)
        · refine zV_aload_n dX7_copy_39 rfl 0 rfl rfl ?_
          refine zV_ldcw (v := (-1000006)) dX7_copy_40 rfl tw1329 ?_
          refine zV_callV (E' := eX7_finding (g_rmv 0)) (av := [.int (-1000006)]) (st := []) (b := 76) dX7_copy_43 rfl (k_RX7_87 _) rfl ⟨by decide, by decide⟩ ⟨by decide, by decide⟩ (Or.inl rfl) rfl (Nat.le_of_ble_eq_true rfl) rfl rfl rfl (m_finding (w := 5) (by decide) (by decide)) (fun r43 M43 z => ?_)
          obtain ⟨rfl, rfl⟩ := z
          show zV G (eX7_copy (g_rmv 2)) (0, 0) 46 [(0, .ref 76), (1, .int (nI s)), (2, .int f), (3, .int (nI u)), (4, .int q), (5, .int n)] [.int (fdg 5)] (mm (mTell I 5) J t) _
          exact zV_ireturn dX7_copy_46 rfl rfl (PM.tell hM (by decide) (by unfold op_copy; rw [if_pos h4, if_pos h11, tn_nI (show s < 2 ^ 31 by omega), tn_nI (show u < 2 ^ 31 by omega), if_neg h27, if_pos h36]) scM.rf)
    · refine zV_aload_n dX7_copy_14 rfl 0 rfl rfl ?_
      refine zV_ldc (v := (-1000001)) dX7_copy_15 rfl tw970 ?_
      refine zV_callV (E' := eX7_finding (g_rmv 0)) (av := [.int (-1000001)]) (st := []) (b := 76) dX7_copy_17 rfl (k_RX7_87 _) rfl ⟨by decide, by decide⟩ ⟨by decide, by decide⟩ (Or.inl rfl) rfl (Nat.le_of_ble_eq_true rfl) rfl rfl rfl (m_finding (w := 0) (by decide) (by decide)) (fun r17 M17 z => ?_)
      obtain ⟨rfl, rfl⟩ := z
      show zV G (eX7_copy (g_rmv 2)) (0, 0) 20 [(0, .ref 76), (1, .int x), (2, .int f), (3, .int y), (4, .int q), (5, .int n)] [.int (fdg 0)] (mm (mTell I 0) J t) _
      exact zV_ireturn dX7_copy_20 rfl rfl (PM.tell hM (by decide) (by unfold op_copy; rw [if_pos h4, if_neg h11]) scM.rf)
