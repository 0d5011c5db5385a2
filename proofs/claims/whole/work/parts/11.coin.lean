/-! COINS: what a coin is worth, how it turns; and small static methods -/
theorem b2_fits (p : Prop) [Decidable p] : fits .boolean (.int (b2 p)) = true := by unfold b2; split <;> rfl
def k_face (k : Nat → Nat) (s : Nat) : Nat := if s = 0 then k 2 else k 3
def k_wIf (k : Nat → Nat) (kd s tu wh : Nat) : Nat := if kd = 1 ∨ kd = 4 then k_face k s + 1 else if kd = 3 then k 2 else if kd = 5 then k_face k s - tu else if kd = 6 then (if wh = 3 then k_face k s - tu else (k_face k s - tu) / 2) else k_face k s
def k_lies (k : Nat → Nat) : Nat := if k 0 = 2 ∨ k 0 = 3 ∨ k 0 = 4 then k 4 else 1 - k 4
def k_turns (k : Nat → Nat) : Nat := if k 0 = 2 ∨ k 0 = 3 then k 5 else if k 0 = 4 then k 5 + 2 else k 5 + 1
def k_now (k : Nat → Nat) : Nat := k_wIf k (k 0) (k 4) (k 5) (k 1)
def k_oth (k : Nat → Nat) : Nat := k_wIf k (k 0) (1 - k 4) (k 5) (k 1)
def k_as (k : Nat → Nat) (kd : Nat) : Nat := k_wIf k kd (k 4) (k 5) (k 1)
def k_paid (k : Nat → Nat) (wh : Nat) : Nat := k_wIf k (k 0) (k_lies k) (k_turns k) wh
def k_turn (k : Nat → Nat) : Nat → Nat := fun f => if f = 4 then k_lies k else if f = 5 then k_turns k else k f
def k_set (k : Nat → Nat) (g v : Nat) : Nat → Nat := fun f => if f = g then v else k f
def absK (I : Nat → Nat → Int32) (q : Nat) (k : Nat → Nat) : Prop := ∀ f, f < 6 → I q f = nI (k f)
def wfK (B : Nat) (k : Nat → Nat) : Prop := k 0 < 7 ∧ k 1 < 4 ∧ k 2 < 100 ∧ k 3 < 100 ∧ k 4 < 2 ∧ k 5 ≤ B ∧ B < 1000000
theorem k_face_lt {B : Nat} {k : Nat → Nat} (h : wfK B k) (s : Nat) : k_face k s < 100 := by
  unfold k_face
  split
  · exact h.2.2.1
  · exact h.2.2.2.1
theorem k_wIf_le {B : Nat} {k : Nat → Nat} (h : wfK B k) (kd s tu wh : Nat) : k_wIf k kd s tu wh ≤ 100 := by
  have h1 := k_face_lt h s
  have h2 := h.2.2.1
  unfold k_wIf
  repeat' split
  all_goals omega
theorem k_lies_lt {B : Nat} {k : Nat → Nat} (h : wfK B k) : k_lies k < 2 := by
  have h1 := h.2.2.2.2.1
  unfold k_lies
  split <;> omega
theorem k_turns_le {B : Nat} {k : Nat → Nat} (h : wfK B k) : k_turns k ≤ B + 2 := by
  have h1 := h.2.2.2.2.2.1
  unfold k_turns
  repeat' split
  all_goals omega
theorem wf_turn {B : Nat} {k : Nat → Nat} (h : wfK B k) (hB : B + 2 < 1000000) : wfK (B + 2) (k_turn k) := ⟨h.1, h.2.1, h.2.2.1, h.2.2.2.1, k_lies_lt h, k_turns_le h, hB⟩
theorem wf_pay {B : Nat} {k : Nat → Nat} (h : wfK B k) (hB : B + 2 < 1000000) {w : Nat} (hw : w < 4) : wfK (B + 2) (k_set (k_turn k) 1 w) := ⟨h.1, hw, h.2.2.1, h.2.2.2.1, k_lies_lt h, k_turns_le h, hB⟩
theorem z_subn {a b : Nat} (ha : a < 1000000) (hb : b < 1000010) : (nI a - nI b).toInt = (a : Int) - b := pk_sub_toInt (by omega) (by omega)
theorem z_max0 {a b : Nat} (ha : a < 1000000) (hb : b < 1000010) : (if (nI a - nI b) ≤ nI 0 then nI 0 else (nI a - nI b)) = nI (a - b) := by
  have e := z_subn ha hb
  by_cases h : a ≤ b
  · rw [if_pos (by rw [Int32.le_iff_toInt_le, e, nI_toInt (by decide)]; omega), show a - b = 0 by omega]
  · rw [if_neg (by rw [Int32.le_iff_toInt_le, e, nI_toInt (by decide)]; omega), pk_sub (by omega)]
theorem z_bool {p : Prop} [Decidable p] {x : Int32} (h : x = if p then 1 else 0) : x = b2 p := h

set_option maxRecDepth 100000 in
theorem c_max {G : mG} {I : Nat → Nat → Int32} {J : Nat → Nat → Int64} {t : Nat} {x y : Int32} : zC G yJ9_max_7cf53 (eJ9_max_7cf53 (g_rmv 0)) [.int x, .int y] (mm I J t) (fun r M => r = some (.int (if y ≤ x then x else y)) ∧ M = mm I J t) := by
  refine zC_of (by decide +kernel) rfl (by decide) (Nat.le_of_ble_eq_true rfl) ?_
  show zV G (eJ9_max_7cf53 (g_rmv 0)) (0, 0) 0 [(0, .int x), (1, .int y)] [] (mm I J t) _
  refine zV_iload_n dJ9_max_7cf53_0 rfl 0 rfl rfl ?_
  refine zV_iload_n dJ9_max_7cf53_1 rfl 1 rfl rfl ?_
  refine zV_icmp_lt (tgt := 9) dJ9_max_7cf53_2 rfl rfl  (fun h2 => ?_) (fun h2 => ?_)
  · refine zV_iload_n dJ9_max_7cf53_9 rfl 1 rfl rfl ?_
    exact zV_ireturn dJ9_max_7cf53_10 rfl rfl (⟨by rw [if_neg (Int32.not_le.mpr h2)], rfl⟩)
  · refine zV_iload_n dJ9_max_7cf53_5 rfl 0 rfl rfl ?_
    refine zV_goto (tgt := 10) dJ9_max_7cf53_6 rfl ?_
    exact zV_ireturn dJ9_max_7cf53_10 rfl rfl (⟨by simp only [Int32.not_lt] at h2; simp [h2], rfl⟩)

set_option maxRecDepth 100000 in
theorem c_min {G : mG} {I : Nat → Nat → Int32} {J : Nat → Nat → Int64} {t : Nat} {x y : Int32} : zC G yJ9_min_7cf53 (eJ9_min_7cf53 (g_rmv 0)) [.int x, .int y] (mm I J t) (fun r M => r = some (.int (if x ≤ y then x else y)) ∧ M = mm I J t) := by
  refine zC_of (by decide +kernel) rfl (by decide) (Nat.le_of_ble_eq_true rfl) ?_
  show zV G (eJ9_min_7cf53 (g_rmv 0)) (0, 0) 0 [(0, .int x), (1, .int y)] [] (mm I J t) _
  refine zV_iload_n dJ9_min_7cf53_0 rfl 0 rfl rfl ?_
  refine zV_iload_n dJ9_min_7cf53_1 rfl 1 rfl rfl ?_
  refine zV_icmp_gt (tgt := 9) dJ9_min_7cf53_2 rfl rfl  (fun h2 => ?_) (fun h2 => ?_)
  · refine zV_iload_n dJ9_min_7cf53_9 rfl 1 rfl rfl ?_
    exact zV_ireturn dJ9_min_7cf53_10 rfl rfl (⟨by rw [if_neg (Int32.not_le.mpr h2)], rfl⟩)
  · refine zV_iload_n dJ9_min_7cf53_5 rfl 0 rfl rfl ?_
    refine zV_goto (tgt := 10) dJ9_min_7cf53_6 rfl ?_
    exact zV_ireturn dJ9_min_7cf53_10 rfl rfl (⟨by simp only [Int32.not_lt] at h2; simp [h2], rfl⟩)

theorem c_max0 {G : mG} {I : Nat → Nat → Int32} {J : Nat → Nat → Int64} {t : Nat} {a b : Nat} (ha : a < 1000000) (hb : b < 1000010) : zC G yJ9_max_7cf53 (eJ9_max_7cf53 (g_rmv 0)) [.int (nI 0), .int (nI a - nI b)] (mm I J t) (fun r M => r = some (.int (nI (a - b))) ∧ M = mm I J t) :=
  zC_mono (fun r M h => ⟨by rw [h.1, z_max0 ha hb], h.2⟩) c_max
theorem c_maxn {G : mG} {I : Nat → Nat → Int32} {J : Nat → Nat → Int64} {t : Nat} {a b : Nat} (ha : a < 2 ^ 31) (hb : b < 2 ^ 31) : zC G yJ9_max_7cf53 (eJ9_max_7cf53 (g_rmv 0)) [.int (nI a), .int (nI b)] (mm I J t) (fun r M => r = some (.int (nI (max a b))) ∧ M = mm I J t) :=
  zC_mono (fun r M h => ⟨by
    rw [h.1]
    by_cases z : b ≤ a
    · rw [if_pos ((nI_leI hb ha).mpr z), Nat.max_eq_left z]
    · rw [if_neg (fun q => z ((nI_leI hb ha).mp q)), Nat.max_eq_right (by omega)], h.2⟩) c_max
theorem c_minn {G : mG} {I : Nat → Nat → Int32} {J : Nat → Nat → Int64} {t : Nat} {a b : Nat} (ha : a < 2 ^ 31) (hb : b < 2 ^ 31) : zC G yJ9_min_7cf53 (eJ9_min_7cf53 (g_rmv 0)) [.int (nI a), .int (nI b)] (mm I J t) (fun r M => r = some (.int (nI (min a b))) ∧ M = mm I J t) :=
  zC_mono (fun r M h => ⟨by
    rw [h.1]
    by_cases z : a ≤ b
    · rw [if_pos ((nI_leI ha hb).mpr z), Nat.min_eq_left z]
    · rw [if_neg (fun q => z ((nI_leI ha hb).mp q)), Nat.min_eq_right (by omega)], h.2⟩) c_min

set_option maxRecDepth 100000 in
theorem c_worthIf {G : mG} {I : Nat → Nat → Int32} {J : Nat → Nat → Int64} {t : Nat} {q B : Nat} {k : Nat → Nat} (hq : sh0[q]? = some (0, 0, 6)) (hK : absK I q k) (hw : wfK B k) {kd sd tu wh : Nat} (h1 : kd < 7) (h2 : sd < 2) (h3 : tu < 1000010) (h4 : wh < 4) : zC G yX0_worthIf (eX0_worthIf (g_rmv 1)) [.ref q, .int (nI kd), .int (nI sd), .int (nI tu), .int (nI wh)] (mm I J t) (fun r M => r = some (.int (nI (k_wIf k kd sd tu wh))) ∧ M = mm I J t) := by
  refine zC_of (by decide +kernel) rfl (by decide) (Nat.le_of_ble_eq_true rfl) ?_
  obtain ⟨w0, w1, w2, w3, w4, w5, w6⟩ := id hw
  show zV G (eX0_worthIf (g_rmv 1)) (0, 0) 0 [(0, .ref q), (1, .int (nI kd)), (2, .int (nI sd)), (3, .int (nI tu)), (4, .int (nI wh))] [] (mm I J t) _
  refine zV_iload_n dX0_worthIf_0 rfl 2 rfl rfl ?_
  refine zN_if_ne (tgt := 11) dX0_worthIf_1 rfl rfl (by omega) (fun h1 => ?_) (fun h1 => ?_)
  · refine zV_aload_n dX0_worthIf_11 rfl 0 rfl rfl ?_
    refine zV_getI (x := (nI (k 3))) 3 dX0_worthIf_12 rfl fl_RX0_21 hq (by decide) rfl (hK 3 (by decide)) ?_
    refine zV_istore (lv' := [(0, .ref q), (1, .int (nI kd)), (2, .int (nI sd)), (3, .int (nI tu)), (4, .int (nI wh)), (5, .int (nI (k 3)))]) dX0_worthIf_15 rfl (by decide) rfl ?_
    refine zV_iload_n dX0_worthIf_17 rfl 1 rfl rfl ?_
    refine zN_tbl (lo' := 1) (hi' := 6) (td := 101) dX0_worthIf_18 rfl rfl (by omega) rfl (fun h18 => ?_) (fun i hi1 hi2 h18 => ?_)
    · refine zV_iload dX0_worthIf_101 rfl 5 rfl ?_
      exact zV_ireturn dX0_worthIf_103 rfl rfl (⟨congrArg (fun x => some (Value.int (nI x))) (by unfold k_wIf k_face; (repeat' split) <;> omega), rfl⟩)
    · rcases (show i = 1 ∨ i = 2 ∨ i = 3 ∨ i = 4 ∨ i = 5 ∨ i = 6 by omega) with rfl | rfl | rfl | rfl | rfl | rfl
      · refine ⟨_, 56, rfl, rfl, ?_⟩
        refine zV_iload dX0_worthIf_56 rfl 5 rfl ?_
        refine zV_iconst (v := (nI 1)) dX0_worthIf_58 rfl rfl ?_
        refine zA_iadd (z := (nI ((k 3) + 1))) dX0_worthIf_59 rfl  (nI_add _ _) ?_
        exact zV_ireturn dX0_worthIf_60 rfl rfl (⟨congrArg (fun x => some (Value.int (nI x))) (by unfold k_wIf k_face; (repeat' split) <;> omega), rfl⟩)
      · refine ⟨_, 101, rfl, rfl, ?_⟩
        refine zV_iload dX0_worthIf_101 rfl 5 rfl ?_
        exact zV_ireturn dX0_worthIf_103 rfl rfl (⟨congrArg (fun x => some (Value.int (nI x))) (by unfold k_wIf k_face; (repeat' split) <;> omega), rfl⟩)
      · refine ⟨_, 61, rfl, rfl, ?_⟩
        refine zV_aload_n dX0_worthIf_61 rfl 0 rfl rfl ?_
        refine zV_getI (x := (nI (k 2))) 2 dX0_worthIf_62 rfl fl_RX0_18 hq (by decide) rfl (hK 2 (by decide)) ?_
        exact zV_ireturn dX0_worthIf_65 rfl rfl (⟨congrArg (fun x => some (Value.int (nI x))) (by unfold k_wIf k_face; (repeat' split) <;> omega), rfl⟩)
      · refine ⟨_, 56, rfl, rfl, ?_⟩
        refine zV_iload dX0_worthIf_56 rfl 5 rfl ?_
        refine zV_iconst (v := (nI 1)) dX0_worthIf_58 rfl rfl ?_
        refine zA_iadd (z := (nI ((k 3) + 1))) dX0_worthIf_59 rfl  (nI_add _ _) ?_
        exact zV_ireturn dX0_worthIf_60 rfl rfl (⟨congrArg (fun x => some (Value.int (nI x))) (by unfold k_wIf k_face; (repeat' split) <;> omega), rfl⟩)
      · refine ⟨_, 66, rfl, rfl, ?_⟩
        refine zV_iconst (v := (nI 0)) dX0_worthIf_66 rfl rfl ?_
        refine zV_iload dX0_worthIf_67 rfl 5 rfl ?_
        refine zV_iload_n dX0_worthIf_69 rfl 3 rfl rfl ?_
        refine zA_isub (z := ((nI (k 3)) - (nI tu))) dX0_worthIf_70 rfl  (rfl) ?_
        refine zV_callS (E' := eJ9_max_7cf53 (g_rmv 0)) (av := [.int (nI 0), .int ((nI (k 3)) - (nI tu))]) (st := []) dX0_worthIf_71 rfl (k_RX0_41 _) rfl ⟨by decide, by decide⟩ ⟨by decide, by decide⟩ (Or.inl rfl) rfl (Nat.le_of_ble_eq_true rfl) (c_max0 (a := (k 3)) (b := tu) (by omega) (by omega)) (fun r71 M71 z => ?_)
        obtain ⟨rfl, rfl⟩ := z
        show zV G (eX0_worthIf (g_rmv 1)) (0, 0) 74 [(0, .ref q), (1, .int (nI kd)), (2, .int (nI sd)), (3, .int (nI tu)), (4, .int (nI wh)), (5, .int (nI (k 3)))] [.int (nI ((k 3) - tu))] (mm I J t) _
        exact zV_ireturn dX0_worthIf_74 rfl rfl (⟨congrArg (fun x => some (Value.int (nI x))) (by unfold k_wIf k_face; (repeat' split) <;> omega), rfl⟩)
      · refine ⟨_, 75, rfl, rfl, ?_⟩
        refine zV_iconst (v := (nI 0)) dX0_worthIf_75 rfl rfl ?_
        refine zV_iload dX0_worthIf_76 rfl 5 rfl ?_
        refine zV_iload_n dX0_worthIf_78 rfl 3 rfl rfl ?_
        refine zA_isub (z := ((nI (k 3)) - (nI tu))) dX0_worthIf_79 rfl  (rfl) ?_
        refine zV_callS (E' := eJ9_max_7cf53 (g_rmv 0)) (av := [.int (nI 0), .int ((nI (k 3)) - (nI tu))]) (st := []) dX0_worthIf_80 rfl (k_RX0_41 _) rfl ⟨by decide, by decide⟩ ⟨by decide, by decide⟩ (Or.inl rfl) rfl (Nat.le_of_ble_eq_true rfl) (c_max0 (a := (k 3)) (b := tu) (by omega) (by omega)) (fun r80 M80 z => ?_)
        obtain ⟨rfl, rfl⟩ := z
        show zV G (eX0_worthIf (g_rmv 1)) (0, 0) 83 [(0, .ref q), (1, .int (nI kd)), (2, .int (nI sd)), (3, .int (nI tu)), (4, .int (nI wh)), (5, .int (nI (k 3)))] [.int (nI ((k 3) - tu))] (mm I J t) _
        refine zV_istore (lv' := [(0, .ref q), (1, .int (nI kd)), (2, .int (nI sd)), (3, .int (nI tu)), (4, .int (nI wh)), (5, .int (nI (k 3))), (6, .int (nI ((k 3) - tu)))]) dX0_worthIf_83 rfl (by decide) rfl ?_
        refine zV_iload dX0_worthIf_85 rfl 4 rfl ?_
        refine zV_iconst (v := (nI 3)) dX0_worthIf_87 rfl rfl ?_
        refine zN_icmp_ne (tgt := 96) dX0_worthIf_88 rfl rfl (by omega) (by omega) (fun h88 => ?_) (fun h88 => ?_)
        · refine zV_iload dX0_worthIf_96 rfl 6 rfl ?_
          refine zV_iconst (v := (nI 2)) dX0_worthIf_98 rfl rfl ?_
          refine zA_idiv (z := (nI (((k 3) - tu) / 2))) dX0_worthIf_99 rfl (by decide) (pk_div (by omega) (by omega) (by omega)) ?_
          exact zV_ireturn dX0_worthIf_100 rfl rfl (⟨congrArg (fun x => some (Value.int (nI x))) (by unfold k_wIf k_face; (repeat' split) <;> omega), rfl⟩)
        · refine zV_iload dX0_worthIf_91 rfl 6 rfl ?_
          refine zV_goto (tgt := 100) dX0_worthIf_93 rfl ?_
          exact zV_ireturn dX0_worthIf_100 rfl rfl (⟨congrArg (fun x => some (Value.int (nI x))) (by unfold k_wIf k_face; (repeat' split) <;> omega), rfl⟩)
  · refine zV_aload_n dX0_worthIf_4 rfl 0 rfl rfl ?_
    refine zV_getI (x := (nI (k 2))) 2 dX0_worthIf_5 rfl fl_RX0_18 hq (by decide) rfl (hK 2 (by decide)) ?_
    refine zV_goto (tgt := 15) dX0_worthIf_8 rfl ?_
    refine zV_istore (lv' := [(0, .ref q), (1, .int (nI kd)), (2, .int (nI sd)), (3, .int (nI tu)), (4, .int (nI wh)), (5, .int (nI (k 2)))]) dX0_worthIf_15 rfl (by decide) rfl ?_
    refine zV_iload_n dX0_worthIf_17 rfl 1 rfl rfl ?_
    refine zN_tbl (lo' := 1) (hi' := 6) (td := 101) dX0_worthIf_18 rfl rfl (by omega) rfl (fun h18 => ?_) (fun i hi1 hi2 h18 => ?_)
    · refine zV_iload dX0_worthIf_101 rfl 5 rfl ?_
      exact zV_ireturn dX0_worthIf_103 rfl rfl (⟨congrArg (fun x => some (Value.int (nI x))) (by unfold k_wIf k_face; (repeat' split) <;> omega), rfl⟩)
    · rcases (show i = 1 ∨ i = 2 ∨ i = 3 ∨ i = 4 ∨ i = 5 ∨ i = 6 by omega) with rfl | rfl | rfl | rfl | rfl | rfl
      · refine ⟨_, 56, rfl, rfl, ?_⟩
        refine zV_iload dX0_worthIf_56 rfl 5 rfl ?_
        refine zV_iconst (v := (nI 1)) dX0_worthIf_58 rfl rfl ?_
        refine zA_iadd (z := (nI ((k 2) + 1))) dX0_worthIf_59 rfl  (nI_add _ _) ?_
        exact zV_ireturn dX0_worthIf_60 rfl rfl (⟨congrArg (fun x => some (Value.int (nI x))) (by unfold k_wIf k_face; (repeat' split) <;> omega), rfl⟩)
      · refine ⟨_, 101, rfl, rfl, ?_⟩
        refine zV_iload dX0_worthIf_101 rfl 5 rfl ?_
        exact zV_ireturn dX0_worthIf_103 rfl rfl (⟨congrArg (fun x => some (Value.int (nI x))) (by unfold k_wIf k_face; (repeat' split) <;> omega), rfl⟩)
      · refine ⟨_, 61, rfl, rfl, ?_⟩
        refine zV_aload_n dX0_worthIf_61 rfl 0 rfl rfl ?_
        refine zV_getI (x := (nI (k 2))) 2 dX0_worthIf_62 rfl fl_RX0_18 hq (by decide) rfl (hK 2 (by decide)) ?_
        exact zV_ireturn dX0_worthIf_65 rfl rfl (⟨congrArg (fun x => some (Value.int (nI x))) (by unfold k_wIf k_face; (repeat' split) <;> omega), rfl⟩)
      · refine ⟨_, 56, rfl, rfl, ?_⟩
        refine zV_iload dX0_worthIf_56 rfl 5 rfl ?_
        refine zV_iconst (v := (nI 1)) dX0_worthIf_58 rfl rfl ?_
        refine zA_iadd (z := (nI ((k 2) + 1))) dX0_worthIf_59 rfl  (nI_add _ _) ?_
        exact zV_ireturn dX0_worthIf_60 rfl rfl (⟨congrArg (fun x => some (Value.int (nI x))) (by unfold k_wIf k_face; (repeat' split) <;> omega), rfl⟩)
      · refine ⟨_, 66, rfl, rfl, ?_⟩
        refine zV_iconst (v := (nI 0)) dX0_worthIf_66 rfl rfl ?_
        refine zV_iload dX0_worthIf_67 rfl 5 rfl ?_
        refine zV_iload_n dX0_worthIf_69 rfl 3 rfl rfl ?_
        refine zA_isub (z := ((nI (k 2)) - (nI tu))) dX0_worthIf_70 rfl  (rfl) ?_
        refine zV_callS (E' := eJ9_max_7cf53 (g_rmv 0)) (av := [.int (nI 0), .int ((nI (k 2)) - (nI tu))]) (st := []) dX0_worthIf_71 rfl (k_RX0_41 _) rfl ⟨by decide, by decide⟩ ⟨by decide, by decide⟩ (Or.inl rfl) rfl (Nat.le_of_ble_eq_true rfl) (c_max0 (a := (k 2)) (b := tu) (by omega) (by omega)) (fun r71 M71 z => ?_)
        obtain ⟨rfl, rfl⟩ := z
        show zV G (eX0_worthIf (g_rmv 1)) (0, 0) 74 [(0, .ref q), (1, .int (nI kd)), (2, .int (nI sd)), (3, .int (nI tu)), (4, .int (nI wh)), (5, .int (nI (k 2)))] [.int (nI ((k 2) - tu))] (mm I J t) _
        exact zV_ireturn dX0_worthIf_74 rfl rfl (⟨congrArg (fun x => some (Value.int (nI x))) (by unfold k_wIf k_face; (repeat' split) <;> omega), rfl⟩)
      · refine ⟨_, 75, rfl, rfl, ?_⟩
        refine zV_iconst (v := (nI 0)) dX0_worthIf_75 rfl rfl ?_
        refine zV_iload dX0_worthIf_76 rfl 5 rfl ?_
        refine zV_iload_n dX0_worthIf_78 rfl 3 rfl rfl ?_
        refine zA_isub (z := ((nI (k 2)) - (nI tu))) dX0_worthIf_79 rfl  (rfl) ?_
        refine zV_callS (E' := eJ9_max_7cf53 (g_rmv 0)) (av := [.int (nI 0), .int ((nI (k 2)) - (nI tu))]) (st := []) dX0_worthIf_80 rfl (k_RX0_41 _) rfl ⟨by decide, by decide⟩ ⟨by decide, by decide⟩ (Or.inl rfl) rfl (Nat.le_of_ble_eq_true rfl) (c_max0 (a := (k 2)) (b := tu) (by omega) (by omega)) (fun r80 M80 z => ?_)
        obtain ⟨rfl, rfl⟩ := z
        show zV G (eX0_worthIf (g_rmv 1)) (0, 0) 83 [(0, .ref q), (1, .int (nI kd)), (2, .int (nI sd)), (3, .int (nI tu)), (4, .int (nI wh)), (5, .int (nI (k 2)))] [.int (nI ((k 2) - tu))] (mm I J t) _
        refine zV_istore (lv' := [(0, .ref q), (1, .int (nI kd)), (2, .int (nI sd)), (3, .int (nI tu)), (4, .int (nI wh)), (5, .int (nI (k 2))), (6, .int (nI ((k 2) - tu)))]) dX0_worthIf_83 rfl (by decide) rfl ?_
        refine zV_iload dX0_worthIf_85 rfl 4 rfl ?_
        refine zV_iconst (v := (nI 3)) dX0_worthIf_87 rfl rfl ?_
        refine zN_icmp_ne (tgt := 96) dX0_worthIf_88 rfl rfl (by omega) (by omega) (fun h88 => ?_) (fun h88 => ?_)
        · refine zV_iload dX0_worthIf_96 rfl 6 rfl ?_
          refine zV_iconst (v := (nI 2)) dX0_worthIf_98 rfl rfl ?_
          refine zA_idiv (z := (nI (((k 2) - tu) / 2))) dX0_worthIf_99 rfl (by decide) (pk_div (by omega) (by omega) (by omega)) ?_
          exact zV_ireturn dX0_worthIf_100 rfl rfl (⟨congrArg (fun x => some (Value.int (nI x))) (by unfold k_wIf k_face; (repeat' split) <;> omega), rfl⟩)
        · refine zV_iload dX0_worthIf_91 rfl 6 rfl ?_
          refine zV_goto (tgt := 100) dX0_worthIf_93 rfl ?_
          exact zV_ireturn dX0_worthIf_100 rfl rfl (⟨congrArg (fun x => some (Value.int (nI x))) (by unfold k_wIf k_face; (repeat' split) <;> omega), rfl⟩)

set_option maxRecDepth 100000 in
theorem c_worthNow {G : mG} {I : Nat → Nat → Int32} {J : Nat → Nat → Int64} {t : Nat} {q B : Nat} {k : Nat → Nat} (hq : sh0[q]? = some (0, 0, 6)) (hK : absK I q k) (hw : wfK B k) : zC G yX0_worthNow (eX0_worthNow (g_rmv 2)) [.ref q] (mm I J t) (fun r M => r = some (.int (nI (k_now k))) ∧ M = mm I J t) := by
  refine zC_of (by decide +kernel) rfl (by decide) (Nat.le_of_ble_eq_true rfl) ?_
  obtain ⟨w0, w1, w2, w3, w4, w5, w6⟩ := id hw
  show zV G (eX0_worthNow (g_rmv 2)) (0, 0) 0 [(0, .ref q)] [] (mm I J t) _
  refine zV_aload_n dX0_worthNow_0 rfl 0 rfl rfl ?_
  refine zV_aload_n dX0_worthNow_1 rfl 0 rfl rfl ?_
  refine zV_getI (x := (nI (k 0))) 0 dX0_worthNow_2 rfl fl_RX0_9 hq (by decide) rfl (hK 0 (by decide)) ?_
  refine zV_aload_n dX0_worthNow_5 rfl 0 rfl rfl ?_
  refine zV_getI (x := (nI (k 4))) 4 dX0_worthNow_6 rfl fl_RX0_24 hq (by decide) rfl (hK 4 (by decide)) ?_
  refine zV_aload_n dX0_worthNow_9 rfl 0 rfl rfl ?_
  refine zV_getI (x := (nI (k 5))) 5 dX0_worthNow_10 rfl fl_RX0_27 hq (by decide) rfl (hK 5 (by decide)) ?_
  refine zV_aload_n dX0_worthNow_13 rfl 0 rfl rfl ?_
  refine zV_getI (x := (nI (k 1))) 1 dX0_worthNow_14 rfl fl_RX0_15 hq (by decide) rfl (hK 1 (by decide)) ?_
  refine zV_callV (E' := eX0_worthIf (g_rmv 1)) (av := [.int (nI (k 0)), .int (nI (k 4)), .int (nI (k 5)), .int (nI (k 1))]) (st := []) (b := q) dX0_worthNow_17 rfl (k_RX0_30 _) rfl ⟨by decide, by decide⟩ ⟨by decide, by decide⟩ (Or.inl rfl) rfl (Nat.le_of_ble_eq_true rfl) hq rfl rfl (c_worthIf (kd := (k 0)) (sd := (k 4)) (tu := (k 5)) (wh := (k 1)) hq hK hw (by omega) (by omega) (by omega) (by omega)) (fun r17 M17 z => ?_)
  obtain ⟨rfl, rfl⟩ := z
  show zV G (eX0_worthNow (g_rmv 2)) (0, 0) 20 [(0, .ref q)] [.int (nI (k_wIf k (k 0) (k 4) (k 5) (k 1)))] (mm I J t) _
  exact zV_ireturn dX0_worthNow_20 rfl rfl (⟨rfl, rfl⟩)

set_option maxRecDepth 100000 in
theorem c_worthOther {G : mG} {I : Nat → Nat → Int32} {J : Nat → Nat → Int64} {t : Nat} {q B : Nat} {k : Nat → Nat} (hq : sh0[q]? = some (0, 0, 6)) (hK : absK I q k) (hw : wfK B k) : zC G yX0_worthOtherWay (eX0_worthOtherWay (g_rmv 2)) [.ref q] (mm I J t) (fun r M => r = some (.int (nI (k_oth k))) ∧ M = mm I J t) := by
  refine zC_of (by decide +kernel) rfl (by decide) (Nat.le_of_ble_eq_true rfl) ?_
  obtain ⟨w0, w1, w2, w3, w4, w5, w6⟩ := id hw
  show zV G (eX0_worthOtherWay (g_rmv 2)) (0, 0) 0 [(0, .ref q)] [] (mm I J t) _
  refine zV_aload_n dX0_worthOtherWay_0 rfl 0 rfl rfl ?_
  refine zV_aload_n dX0_worthOtherWay_1 rfl 0 rfl rfl ?_
  refine zV_getI (x := (nI (k 0))) 0 dX0_worthOtherWay_2 rfl fl_RX0_9 hq (by decide) rfl (hK 0 (by decide)) ?_
  refine zV_iconst (v := (nI 1)) dX0_worthOtherWay_5 rfl rfl ?_
  refine zV_aload_n dX0_worthOtherWay_6 rfl 0 rfl rfl ?_
  refine zV_getI (x := (nI (k 4))) 4 dX0_worthOtherWay_7 rfl fl_RX0_24 hq (by decide) rfl (hK 4 (by decide)) ?_
  refine zA_isub (z := (nI (1 - (k 4)))) dX0_worthOtherWay_10 rfl  (pk_sub (by omega)) ?_
  refine zV_aload_n dX0_worthOtherWay_11 rfl 0 rfl rfl ?_
  refine zV_getI (x := (nI (k 5))) 5 dX0_worthOtherWay_12 rfl fl_RX0_27 hq (by decide) rfl (hK 5 (by decide)) ?_
  refine zV_aload_n dX0_worthOtherWay_15 rfl 0 rfl rfl ?_
  refine zV_getI (x := (nI (k 1))) 1 dX0_worthOtherWay_16 rfl fl_RX0_15 hq (by decide) rfl (hK 1 (by decide)) ?_
  refine zV_callV (E' := eX0_worthIf (g_rmv 1)) (av := [.int (nI (k 0)), .int (nI (1 - (k 4))), .int (nI (k 5)), .int (nI (k 1))]) (st := []) (b := q) dX0_worthOtherWay_19 rfl (k_RX0_30 _) rfl ⟨by decide, by decide⟩ ⟨by decide, by decide⟩ (Or.inl rfl) rfl (Nat.le_of_ble_eq_true rfl) hq rfl rfl (c_worthIf (kd := (k 0)) (sd := (1 - (k 4))) (tu := (k 5)) (wh := (k 1)) hq hK hw (by omega) (by omega) (by omega) (by omega)) (fun r19 M19 z => ?_)
  obtain ⟨rfl, rfl⟩ := z
  show zV G (eX0_worthOtherWay (g_rmv 2)) (0, 0) 22 [(0, .ref q)] [.int (nI (k_wIf k (k 0) (1 - (k 4)) (k 5) (k 1)))] (mm I J t) _
  exact zV_ireturn dX0_worthOtherWay_22 rfl rfl (⟨rfl, rfl⟩)

set_option maxRecDepth 100000 in
theorem c_worthAs {G : mG} {I : Nat → Nat → Int32} {J : Nat → Nat → Int64} {t : Nat} {q B : Nat} {k : Nat → Nat} (hq : sh0[q]? = some (0, 0, 6)) (hK : absK I q k) (hw : wfK B k) {kd : Nat} (h1 : kd < 7) : zC G yX0_worthAs (eX0_worthAs (g_rmv 2)) [.ref q, .int (nI kd)] (mm I J t) (fun r M => r = some (.int (nI (k_as k kd))) ∧ M = mm I J t) := by
  refine zC_of (by decide +kernel) rfl (by decide) (Nat.le_of_ble_eq_true rfl) ?_
  obtain ⟨w0, w1, w2, w3, w4, w5, w6⟩ := id hw
  show zV G (eX0_worthAs (g_rmv 2)) (0, 0) 0 [(0, .ref q), (1, .int (nI kd))] [] (mm I J t) _
  refine zV_aload_n dX0_worthAs_0 rfl 0 rfl rfl ?_
  refine zV_iload_n dX0_worthAs_1 rfl 1 rfl rfl ?_
  refine zV_aload_n dX0_worthAs_2 rfl 0 rfl rfl ?_
  refine zV_getI (x := (nI (k 4))) 4 dX0_worthAs_3 rfl fl_RX0_24 hq (by decide) rfl (hK 4 (by decide)) ?_
  refine zV_aload_n dX0_worthAs_6 rfl 0 rfl rfl ?_
  refine zV_getI (x := (nI (k 5))) 5 dX0_worthAs_7 rfl fl_RX0_27 hq (by decide) rfl (hK 5 (by decide)) ?_
  refine zV_aload_n dX0_worthAs_10 rfl 0 rfl rfl ?_
  refine zV_getI (x := (nI (k 1))) 1 dX0_worthAs_11 rfl fl_RX0_15 hq (by decide) rfl (hK 1 (by decide)) ?_
  refine zV_callV (E' := eX0_worthIf (g_rmv 1)) (av := [.int (nI kd), .int (nI (k 4)), .int (nI (k 5)), .int (nI (k 1))]) (st := []) (b := q) dX0_worthAs_14 rfl (k_RX0_30 _) rfl ⟨by decide, by decide⟩ ⟨by decide, by decide⟩ (Or.inl rfl) rfl (Nat.le_of_ble_eq_true rfl) hq rfl rfl (c_worthIf (kd := kd) (sd := (k 4)) (tu := (k 5)) (wh := (k 1)) hq hK hw (by omega) (by omega) (by omega) (by omega)) (fun r14 M14 z => ?_)
  obtain ⟨rfl, rfl⟩ := z
  show zV G (eX0_worthAs (g_rmv 2)) (0, 0) 17 [(0, .ref q), (1, .int (nI kd))] [.int (nI (k_wIf k kd (k 4) (k 5) (k 1)))] (mm I J t) _
  exact zV_ireturn dX0_worthAs_17 rfl rfl (⟨rfl, rfl⟩)

set_option maxRecDepth 100000 in
theorem c_liesT {G : mG} {I : Nat → Nat → Int32} {J : Nat → Nat → Int64} {t : Nat} {q B : Nat} {k : Nat → Nat} (hq : sh0[q]? = some (0, 0, 6)) (hK : absK I q k) (hw : wfK B k) : zC G yX0_liesTurned (eX0_liesTurned (g_rmv 0)) [.ref q] (mm I J t) (fun r M => r = some (.int (nI (k_lies k))) ∧ M = mm I J t) := by
  refine zC_of (by decide +kernel) rfl (by decide) (Nat.le_of_ble_eq_true rfl) ?_
  obtain ⟨w0, w1, w2, w3, w4, w5, w6⟩ := id hw
  show zV G (eX0_liesTurned (g_rmv 0)) (0, 0) 0 [(0, .ref q)] [] (mm I J t) _
  refine zV_aload_n dX0_liesTurned_0 rfl 0 rfl rfl ?_
  refine zV_getI (x := (nI (k 0))) 0 dX0_liesTurned_1 rfl fl_RX0_9 hq (by decide) rfl (hK 0 (by decide)) ?_
  refine zV_iconst (v := (nI 2)) dX0_liesTurned_4 rfl rfl ?_
  refine zN_icmp_eq (tgt := 24) dX0_liesTurned_5 rfl rfl (by omega) (by omega) (fun h5 => ?_) (fun h5 => ?_)
  · refine zV_aload_n dX0_liesTurned_24 rfl 0 rfl rfl ?_
    refine zV_getI (x := (nI (k 4))) 4 dX0_liesTurned_25 rfl fl_RX0_24 hq (by decide) rfl (hK 4 (by decide)) ?_
    refine zV_goto (tgt := 37) dX0_liesTurned_28 rfl ?_
    exact zV_ireturn dX0_liesTurned_37 rfl rfl (⟨congrArg (fun x => some (Value.int (nI x))) (by unfold k_lies; (repeat' split) <;> omega), rfl⟩)
  · refine zV_aload_n dX0_liesTurned_8 rfl 0 rfl rfl ?_
    refine zV_getI (x := (nI (k 0))) 0 dX0_liesTurned_9 rfl fl_RX0_9 hq (by decide) rfl (hK 0 (by decide)) ?_
    refine zV_iconst (v := (nI 3)) dX0_liesTurned_12 rfl rfl ?_
    refine zN_icmp_eq (tgt := 24) dX0_liesTurned_13 rfl rfl (by omega) (by omega) (fun h13 => ?_) (fun h13 => ?_)
    · refine zV_aload_n dX0_liesTurned_24 rfl 0 rfl rfl ?_
      refine zV_getI (x := (nI (k 4))) 4 dX0_liesTurned_25 rfl fl_RX0_24 hq (by decide) rfl (hK 4 (by decide)) ?_
      refine zV_goto (tgt := 37) dX0_liesTurned_28 rfl ?_
      exact zV_ireturn dX0_liesTurned_37 rfl rfl (⟨congrArg (fun x => some (Value.int (nI x))) (by unfold k_lies; (repeat' split) <;> omega), rfl⟩)
    · refine zV_aload_n dX0_liesTurned_16 rfl 0 rfl rfl ?_
      refine zV_getI (x := (nI (k 0))) 0 dX0_liesTurned_17 rfl fl_RX0_9 hq (by decide) rfl (hK 0 (by decide)) ?_
      refine zV_iconst (v := (nI 4)) dX0_liesTurned_20 rfl rfl ?_
      refine zN_icmp_ne (tgt := 31) dX0_liesTurned_21 rfl rfl (by omega) (by omega) (fun h21 => ?_) (fun h21 => ?_)
      · refine zV_iconst (v := (nI 1)) dX0_liesTurned_31 rfl rfl ?_
        refine zV_aload_n dX0_liesTurned_32 rfl 0 rfl rfl ?_
        refine zV_getI (x := (nI (k 4))) 4 dX0_liesTurned_33 rfl fl_RX0_24 hq (by decide) rfl (hK 4 (by decide)) ?_
        refine zA_isub (z := (nI (1 - (k 4)))) dX0_liesTurned_36 rfl  (pk_sub (by omega)) ?_
        exact zV_ireturn dX0_liesTurned_37 rfl rfl (⟨congrArg (fun x => some (Value.int (nI x))) (by unfold k_lies; (repeat' split) <;> omega), rfl⟩)
      · refine zV_aload_n dX0_liesTurned_24 rfl 0 rfl rfl ?_
        refine zV_getI (x := (nI (k 4))) 4 dX0_liesTurned_25 rfl fl_RX0_24 hq (by decide) rfl (hK 4 (by decide)) ?_
        refine zV_goto (tgt := 37) dX0_liesTurned_28 rfl ?_
        exact zV_ireturn dX0_liesTurned_37 rfl rfl (⟨congrArg (fun x => some (Value.int (nI x))) (by unfold k_lies; (repeat' split) <;> omega), rfl⟩)

set_option maxRecDepth 100000 in
theorem c_turnsT {G : mG} {I : Nat → Nat → Int32} {J : Nat → Nat → Int64} {t : Nat} {q B : Nat} {k : Nat → Nat} (hq : sh0[q]? = some (0, 0, 6)) (hK : absK I q k) (hw : wfK B k) : zC G yX0_turnsTurned (eX0_turnsTurned (g_rmv 0)) [.ref q] (mm I J t) (fun r M => r = some (.int (nI (k_turns k))) ∧ M = mm I J t) := by
  refine zC_of (by decide +kernel) rfl (by decide) (Nat.le_of_ble_eq_true rfl) ?_
  obtain ⟨w0, w1, w2, w3, w4, w5, w6⟩ := id hw
  show zV G (eX0_turnsTurned (g_rmv 0)) (0, 0) 0 [(0, .ref q)] [] (mm I J t) _
  refine zV_aload_n dX0_turnsTurned_0 rfl 0 rfl rfl ?_
  refine zV_getI (x := (nI (k 0))) 0 dX0_turnsTurned_1 rfl fl_RX0_9 hq (by decide) rfl (hK 0 (by decide)) ?_
  refine zN_tbl (lo' := 2) (hi' := 4) (td := 44) dX0_turnsTurned_4 rfl rfl (by omega) rfl (fun h4 => ?_) (fun i hi1 hi2 h4 => ?_)
  · refine zV_aload_n dX0_turnsTurned_44 rfl 0 rfl rfl ?_
    refine zV_getI (x := (nI (k 5))) 5 dX0_turnsTurned_45 rfl fl_RX0_27 hq (by decide) rfl (hK 5 (by decide)) ?_
    refine zV_iconst (v := (nI 1)) dX0_turnsTurned_48 rfl rfl ?_
    refine zA_iadd (z := (nI ((k 5) + 1))) dX0_turnsTurned_49 rfl  (nI_add _ _) ?_
    exact zV_ireturn dX0_turnsTurned_50 rfl rfl (⟨congrArg (fun x => some (Value.int (nI x))) (by unfold k_turns; (repeat' split) <;> omega), rfl⟩)
  · rcases (show i = 2 ∨ i = 3 ∨ i = 4 by omega) with rfl | rfl | rfl
    · refine ⟨_, 32, rfl, rfl, ?_⟩
      refine zV_aload_n dX0_turnsTurned_32 rfl 0 rfl rfl ?_
      refine zV_getI (x := (nI (k 5))) 5 dX0_turnsTurned_33 rfl fl_RX0_27 hq (by decide) rfl (hK 5 (by decide)) ?_
      exact zV_ireturn dX0_turnsTurned_36 rfl rfl (⟨congrArg (fun x => some (Value.int (nI x))) (by unfold k_turns; (repeat' split) <;> omega), rfl⟩)
    · refine ⟨_, 32, rfl, rfl, ?_⟩
      refine zV_aload_n dX0_turnsTurned_32 rfl 0 rfl rfl ?_
      refine zV_getI (x := (nI (k 5))) 5 dX0_turnsTurned_33 rfl fl_RX0_27 hq (by decide) rfl (hK 5 (by decide)) ?_
      exact zV_ireturn dX0_turnsTurned_36 rfl rfl (⟨congrArg (fun x => some (Value.int (nI x))) (by unfold k_turns; (repeat' split) <;> omega), rfl⟩)
    · refine ⟨_, 37, rfl, rfl, ?_⟩
      refine zV_aload_n dX0_turnsTurned_37 rfl 0 rfl rfl ?_
      refine zV_getI (x := (nI (k 5))) 5 dX0_turnsTurned_38 rfl fl_RX0_27 hq (by decide) rfl (hK 5 (by decide)) ?_
      refine zV_iconst (v := (nI 2)) dX0_turnsTurned_41 rfl rfl ?_
      refine zA_iadd (z := (nI ((k 5) + 2))) dX0_turnsTurned_42 rfl  (nI_add _ _) ?_
      exact zV_ireturn dX0_turnsTurned_43 rfl rfl (⟨congrArg (fun x => some (Value.int (nI x))) (by unfold k_turns; (repeat' split) <;> omega), rfl⟩)

set_option maxRecDepth 100000 in
theorem c_worthPaid {G : mG} {I : Nat → Nat → Int32} {J : Nat → Nat → Int64} {t : Nat} {q B : Nat} {k : Nat → Nat} (hq : sh0[q]? = some (0, 0, 6)) (hK : absK I q k) (hw : wfK B k) {wh : Nat} (h4 : wh < 4) : zC G yX0_worthPaidTo (eX0_worthPaidTo (g_rmv 2)) [.ref q, .int (nI wh)] (mm I J t) (fun r M => r = some (.int (nI (k_paid k wh))) ∧ M = mm I J t) := by
  refine zC_of (by decide +kernel) rfl (by decide) (Nat.le_of_ble_eq_true rfl) ?_
  obtain ⟨w0, w1, w2, w3, w4, w5, w6⟩ := id hw
  have v1 := k_lies_lt hw
  have v2 := k_turns_le hw
  show zV G (eX0_worthPaidTo (g_rmv 2)) (0, 0) 0 [(0, .ref q), (1, .int (nI wh))] [] (mm I J t) _
  refine zV_aload_n dX0_worthPaidTo_0 rfl 0 rfl rfl ?_
  refine zV_aload_n dX0_worthPaidTo_1 rfl 0 rfl rfl ?_
  refine zV_getI (x := (nI (k 0))) 0 dX0_worthPaidTo_2 rfl fl_RX0_9 hq (by decide) rfl (hK 0 (by decide)) ?_
  refine zV_aload_n dX0_worthPaidTo_5 rfl 0 rfl rfl ?_
  refine zV_callV (E' := eX0_liesTurned (g_rmv 0)) (av := []) (st := [.int (nI (k 0)), .ref q]) (b := q) dX0_worthPaidTo_6 rfl (k_RX0_34 _) rfl ⟨by decide, by decide⟩ ⟨by decide, by decide⟩ (Or.inl rfl) rfl (Nat.le_of_ble_eq_true rfl) hq rfl rfl (c_liesT hq hK hw) (fun r6 M6 z => ?_)
  obtain ⟨rfl, rfl⟩ := z
  show zV G (eX0_worthPaidTo (g_rmv 2)) (0, 0) 9 [(0, .ref q), (1, .int (nI wh))] [.int (nI (k_lies k)), .int (nI (k 0)), .ref q] (mm I J t) _
  refine zV_aload_n dX0_worthPaidTo_9 rfl 0 rfl rfl ?_
  refine zV_callV (E' := eX0_turnsTurned (g_rmv 0)) (av := []) (st := [.int (nI (k_lies k)), .int (nI (k 0)), .ref q]) (b := q) dX0_worthPaidTo_10 rfl (k_RX0_38 _) rfl ⟨by decide, by decide⟩ ⟨by decide, by decide⟩ (Or.inl rfl) rfl (Nat.le_of_ble_eq_true rfl) hq rfl rfl (c_turnsT hq hK hw) (fun r10 M10 z => ?_)
  obtain ⟨rfl, rfl⟩ := z
  show zV G (eX0_worthPaidTo (g_rmv 2)) (0, 0) 13 [(0, .ref q), (1, .int (nI wh))] [.int (nI (k_turns k)), .int (nI (k_lies k)), .int (nI (k 0)), .ref q] (mm I J t) _
  refine zV_iload_n dX0_worthPaidTo_13 rfl 1 rfl rfl ?_
  refine zV_callV (E' := eX0_worthIf (g_rmv 1)) (av := [.int (nI (k 0)), .int (nI (k_lies k)), .int (nI (k_turns k)), .int (nI wh)]) (st := []) (b := q) dX0_worthPaidTo_14 rfl (k_RX0_30 _) rfl ⟨by decide, by decide⟩ ⟨by decide, by decide⟩ (Or.inl rfl) rfl (Nat.le_of_ble_eq_true rfl) hq rfl rfl (c_worthIf (kd := (k 0)) (sd := (k_lies k)) (tu := (k_turns k)) (wh := wh) hq hK hw (by omega) (by omega) (by omega) (by omega)) (fun r14 M14 z => ?_)
  obtain ⟨rfl, rfl⟩ := z
  show zV G (eX0_worthPaidTo (g_rmv 2)) (0, 0) 17 [(0, .ref q), (1, .int (nI wh))] [.int (nI (k_wIf k (k 0) (k_lies k) (k_turns k) wh))] (mm I J t) _
  exact zV_ireturn dX0_worthPaidTo_17 rfl rfl (⟨rfl, rfl⟩)

set_option maxRecDepth 100000 in
theorem c_turnOver {G : mG} {I : Nat → Nat → Int32} {J : Nat → Nat → Int64} {t : Nat} {q B : Nat} {k : Nat → Nat} (hq : sh0[q]? = some (0, 0, 6)) (hK : absK I q k) (hw : wfK B k) : zC G yX0_turnOver (eX0_turnOver (g_rmv 1)) [.ref q] (mm I J t) (fun r M => ∃ I', r = none ∧ M = mm I' J t ∧ absK I' q (k_turn k) ∧ ∀ i, i ≠ q → I' i = I i) := by
  refine zC_of (by decide +kernel) rfl (by decide) (Nat.le_of_ble_eq_true rfl) ?_
  obtain ⟨w0, w1, w2, w3, w4, w5, w6⟩ := id hw
  have v1 := k_lies_lt hw
  have v2 := k_turns_le hw
  show zV G (eX0_turnOver (g_rmv 1)) (0, 0) 0 [(0, .ref q)] [] (mm I J t) _
  refine zV_aload_n dX0_turnOver_0 rfl 0 rfl rfl ?_
  refine zV_callV (E' := eX0_liesTurned (g_rmv 0)) (av := []) (st := []) (b := q) dX0_turnOver_1 rfl (k_RX0_34 _) rfl ⟨by decide, by decide⟩ ⟨by decide, by decide⟩ (Or.inl rfl) rfl (Nat.le_of_ble_eq_true rfl) hq rfl rfl (c_liesT hq hK hw) (fun r1 M1 z => ?_)
  obtain ⟨rfl, rfl⟩ := z
  show zV G (eX0_turnOver (g_rmv 1)) (0, 0) 4 [(0, .ref q)] [.int (nI (k_lies k))] (mm I J t) _
  refine zV_istore_n (lv' := [(0, .ref q), (1, .int (nI (k_lies k)))]) dX0_turnOver_4 rfl rfl (by decide) rfl ?_
  refine zV_aload_n dX0_turnOver_5 rfl 0 rfl rfl ?_
  refine zV_aload_n dX0_turnOver_6 rfl 0 rfl rfl ?_
  refine zV_callV (E' := eX0_turnsTurned (g_rmv 0)) (av := []) (st := [.ref q]) (b := q) dX0_turnOver_7 rfl (k_RX0_38 _) rfl ⟨by decide, by decide⟩ ⟨by decide, by decide⟩ (Or.inl rfl) rfl (Nat.le_of_ble_eq_true rfl) hq rfl rfl (c_turnsT hq hK hw) (fun r7 M7 z => ?_)
  obtain ⟨rfl, rfl⟩ := z
  show zV G (eX0_turnOver (g_rmv 1)) (0, 0) 10 [(0, .ref q), (1, .int (nI (k_lies k)))] [.int (nI (k_turns k)), .ref q] (mm I J t) _
  refine zV_puti 5 dX0_turnOver_10 rfl fl_RX0_27 hq (by decide) rfl rfl rfl ?_
  refine zV_aload_n dX0_turnOver_13 rfl 0 rfl rfl ?_
  refine zV_iload_n dX0_turnOver_14 rfl 1 rfl rfl ?_
  refine zV_puti 4 dX0_turnOver_15 rfl fl_RX0_24 hq (by decide) rfl rfl rfl ?_
  exact zV_return dX0_turnOver_18 rfl (⟨_, rfl, rfl, (fun f hf => by rcases (show f = 0 ∨ f = 1 ∨ f = 2 ∨ f = 3 ∨ f = 4 ∨ f = 5 by omega) with rfl | rfl | rfl | rfl | rfl | rfl <;> simp [up2, k_turn, hK 0 (by decide), hK 1 (by decide), hK 2 (by decide), hK 3 (by decide), hK 4 (by decide), hK 5 (by decide)]), (fun i hi => by funext b; simp [up2, hi])⟩)

set_option maxRecDepth 100000 in
theorem c_payTo {G : mG} {I : Nat → Nat → Int32} {J : Nat → Nat → Int64} {t : Nat} {q B : Nat} {k : Nat → Nat} (hq : sh0[q]? = some (0, 0, 6)) (hK : absK I q k) (hw : wfK B k) {w : Nat} (h4 : w < 4) : zC G yX0_payTo (eX0_payTo (g_rmv 2)) [.ref q, .int (nI w)] (mm I J t) (fun r M => ∃ I', r = none ∧ M = mm I' J t ∧ absK I' q (k_set (k_turn k) 1 w) ∧ ∀ i, i ≠ q → I' i = I i) := by
  refine zC_of (by decide +kernel) rfl (by decide) (Nat.le_of_ble_eq_true rfl) ?_
  obtain ⟨w0, w1, w2, w3, w4, w5, w6⟩ := id hw
  have v1 := k_lies_lt hw
  have v2 := k_turns_le hw
  show zV G (eX0_payTo (g_rmv 2)) (0, 0) 0 [(0, .ref q), (1, .int (nI w))] [] (mm I J t) _
  refine zV_aload_n dX0_payTo_0 rfl 0 rfl rfl ?_
  refine zV_callV (E' := eX0_turnOver (g_rmv 1)) (av := []) (st := []) (b := q) dX0_payTo_1 rfl (k_RX0_47 _) rfl ⟨by decide, by decide⟩ ⟨by decide, by decide⟩ (Or.inl rfl) rfl (Nat.le_of_ble_eq_true rfl) hq rfl rfl (c_turnOver hq hK hw) (fun r1 M1 z => ?_)
  obtain ⟨I1, rfl, rfl, hK1, hF1⟩ := z
  show zV G (eX0_payTo (g_rmv 2)) (0, 0) 4 [(0, .ref q), (1, .int (nI w))] [] (mm I1 J t) _
  refine zV_aload_n dX0_payTo_4 rfl 0 rfl rfl ?_
  refine zV_iload_n dX0_payTo_5 rfl 1 rfl rfl ?_
  refine zV_puti 1 dX0_payTo_6 rfl fl_RX0_15 hq (by decide) rfl rfl rfl ?_
  exact zV_return dX0_payTo_9 rfl (⟨_, rfl, rfl, (fun f hf => by by_cases h : f = 1 <;> simp [up2, k_set, h, hK1 f hf]), (fun i hi => by funext b; simp [up2, hi]; rw [hF1 i hi])⟩)

set_option maxRecDepth 100000 in
theorem c_coinBecome {G : mG} {I : Nat → Nat → Int32} {J : Nat → Nat → Int64} {t : Nat} {q p : Nat} {k : Nat → Nat} (hq : sh0[q]? = some (0, 0, 6)) (hp : sh0[p]? = some (0, 0, 6)) (hne : p ≠ q) (hK : absK I p k) : zC G yX0_become (eX0_become (g_rmv 0)) [.ref q, .ref p] (mm I J t) (fun r M => ∃ I', r = none ∧ M = mm I' J t ∧ absK I' q k ∧ ∀ i, i ≠ q → I' i = I i) := by
  refine zC_of (by decide +kernel) rfl (by decide) (Nat.le_of_ble_eq_true rfl) ?_
  show zV G (eX0_become (g_rmv 0)) (0, 0) 0 [(0, .ref q), (1, .ref p)] [] (mm I J t) _
  refine zV_aload_n dX0_become_0 rfl 0 rfl rfl ?_
  refine zV_aload_n dX0_become_1 rfl 1 rfl rfl ?_
  refine zV_getI (x := (nI (k 0))) 0 dX0_become_2 rfl fl_RX0_9 hp (by decide) rfl (by simp [up2, hne, hK 0 (by decide)]) ?_
  refine zV_puti 0 dX0_become_5 rfl fl_RX0_9 hq (by decide) rfl rfl rfl ?_
  refine zV_aload_n dX0_become_8 rfl 0 rfl rfl ?_
  refine zV_aload_n dX0_become_9 rfl 1 rfl rfl ?_
  refine zV_getI (x := (nI (k 1))) 1 dX0_become_10 rfl fl_RX0_15 hp (by decide) rfl (by simp [up2, hne, hK 1 (by decide)]) ?_
  refine zV_puti 1 dX0_become_13 rfl fl_RX0_15 hq (by decide) rfl rfl rfl ?_
  refine zV_aload_n dX0_become_16 rfl 0 rfl rfl ?_
  refine zV_aload_n dX0_become_17 rfl 1 rfl rfl ?_
  refine zV_getI (x := (nI (k 2))) 2 dX0_become_18 rfl fl_RX0_18 hp (by decide) rfl (by simp [up2, hne, hK 2 (by decide)]) ?_
  refine zV_puti 2 dX0_become_21 rfl fl_RX0_18 hq (by decide) rfl rfl rfl ?_
  refine zV_aload_n dX0_become_24 rfl 0 rfl rfl ?_
  refine zV_aload_n dX0_become_25 rfl 1 rfl rfl ?_
  refine zV_getI (x := (nI (k 3))) 3 dX0_become_26 rfl fl_RX0_21 hp (by decide) rfl (by simp [up2, hne, hK 3 (by decide)]) ?_
  refine zV_puti 3 dX0_become_29 rfl fl_RX0_21 hq (by decide) rfl rfl rfl ?_
  refine zV_aload_n dX0_become_32 rfl 0 rfl rfl ?_
  refine zV_aload_n dX0_become_33 rfl 1 rfl rfl ?_
  refine zV_getI (x := (nI (k 4))) 4 dX0_become_34 rfl fl_RX0_24 hp (by decide) rfl (by simp [up2, hne, hK 4 (by decide)]) ?_
  refine zV_puti 4 dX0_become_37 rfl fl_RX0_24 hq (by decide) rfl rfl rfl ?_
  refine zV_aload_n dX0_become_40 rfl 0 rfl rfl ?_
  refine zV_aload_n dX0_become_41 rfl 1 rfl rfl ?_
  refine zV_getI (x := (nI (k 5))) 5 dX0_become_42 rfl fl_RX0_27 hp (by decide) rfl (by simp [up2, hne, hK 5 (by decide)]) ?_
  refine zV_puti 5 dX0_become_45 rfl fl_RX0_27 hq (by decide) rfl rfl rfl ?_
  exact zV_return dX0_become_48 rfl (⟨_, rfl, rfl, (fun f hf => by rcases (show f = 0 ∨ f = 1 ∨ f = 2 ∨ f = 3 ∨ f = 4 ∨ f = 5 by omega) with rfl | rfl | rfl | rfl | rfl | rfl <;> simp [up2]), (fun i hi => by funext b; simp [up2, hi])⟩)

set_option maxRecDepth 100000 in
theorem c_replace {G : mG} {I : Nat → Nat → Int32} {J : Nat → Nat → Int64} {t : Nat} {q B : Nat} {k : Nat → Nat} (hq : sh0[q]? = some (0, 0, 6)) (hK : absK I q k) (hw : wfK B k) {w v : Nat} (h1 : w < 5) : zC G yX0_replace (eX0_replace (g_rmv 0)) [.ref q, .int (nI w), .int (nI v)] (mm I J t) (fun r M => ∃ I', r = some (.int (nI (k w))) ∧ M = mm I' J t ∧ absK I' q (k_set k w v) ∧ ∀ i, i ≠ q → I' i = I i) := by
  refine zC_of (by decide +kernel) rfl (by decide) (Nat.le_of_ble_eq_true rfl) ?_
  obtain ⟨w0, w1, w2, w3, w4, w5, w6⟩ := id hw
  show zV G (eX0_replace (g_rmv 0)) (0, 0) 0 [(0, .ref q), (1, .int (nI w)), (2, .int (nI v))] [] (mm I J t) _
  refine zV_iload_n dX0_replace_0 rfl 1 rfl rfl ?_
  refine zN_tbl (lo' := 0) (hi' := 3) (td := 84) dX0_replace_1 rfl rfl (by omega) rfl (fun h1 => ?_) (fun i hi1 hi2 h1 => ?_)
  · refine zV_aload_n dX0_replace_84 rfl 0 rfl rfl ?_
    refine zV_getI (x := (nI (k 4))) 4 dX0_replace_85 rfl fl_RX0_24 hq (by decide) rfl (hK 4 (by decide)) ?_
    refine zV_istore_n (lv' := [(0, .ref q), (1, .int (nI w)), (2, .int (nI v)), (3, .int (nI (k 4)))]) dX0_replace_88 rfl rfl (by decide) rfl ?_
    refine zV_aload_n dX0_replace_89 rfl 0 rfl rfl ?_
    refine zV_iload_n dX0_replace_90 rfl 2 rfl rfl ?_
    refine zV_puti 4 dX0_replace_91 rfl fl_RX0_24 hq (by decide) rfl rfl rfl ?_
    refine zV_iload_n dX0_replace_94 rfl 3 rfl rfl ?_
    exact zV_ireturn dX0_replace_95 rfl rfl (by (obtain rfl : w = 4 := (by omega)); exact ⟨_, rfl, rfl, (fun f hf => by rcases (show f = 0 ∨ f = 1 ∨ f = 2 ∨ f = 3 ∨ f = 4 ∨ f = 5 by omega) with rfl | rfl | rfl | rfl | rfl | rfl <;> simp [up2, k_set, hK 0 (by decide), hK 1 (by decide), hK 2 (by decide), hK 3 (by decide), hK 4 (by decide), hK 5 (by decide)]), (fun i hi => by funext b; simp [up2, hi])⟩)
  · rcases (show i = 0 ∨ i = 1 ∨ i = 2 ∨ i = 3 by omega) with rfl | rfl | rfl | rfl
    · refine ⟨_, 32, rfl, rfl, ?_⟩
      refine zV_aload_n dX0_replace_32 rfl 0 rfl rfl ?_
      refine zV_getI (x := (nI (k 0))) 0 dX0_replace_33 rfl fl_RX0_9 hq (by decide) rfl (hK 0 (by decide)) ?_
      refine zV_istore_n (lv' := [(0, .ref q), (1, .int (nI w)), (2, .int (nI v)), (3, .int (nI (k 0)))]) dX0_replace_36 rfl rfl (by decide) rfl ?_
      refine zV_aload_n dX0_replace_37 rfl 0 rfl rfl ?_
      refine zV_iload_n dX0_replace_38 rfl 2 rfl rfl ?_
      refine zV_puti 0 dX0_replace_39 rfl fl_RX0_9 hq (by decide) rfl rfl rfl ?_
      refine zV_goto (tgt := 94) dX0_replace_42 rfl ?_
      refine zV_iload_n dX0_replace_94 rfl 3 rfl rfl ?_
      exact zV_ireturn dX0_replace_95 rfl rfl (by (obtain rfl : w = 0 := (by omega)); exact ⟨_, rfl, rfl, (fun f hf => by rcases (show f = 0 ∨ f = 1 ∨ f = 2 ∨ f = 3 ∨ f = 4 ∨ f = 5 by omega) with rfl | rfl | rfl | rfl | rfl | rfl <;> simp [up2, k_set, hK 0 (by decide), hK 1 (by decide), hK 2 (by decide), hK 3 (by decide), hK 4 (by decide), hK 5 (by decide)]), (fun i hi => by funext b; simp [up2, hi])⟩)
    · refine ⟨_, 45, rfl, rfl, ?_⟩
      refine zV_aload_n dX0_replace_45 rfl 0 rfl rfl ?_
      refine zV_getI (x := (nI (k 1))) 1 dX0_replace_46 rfl fl_RX0_15 hq (by decide) rfl (hK 1 (by decide)) ?_
      refine zV_istore_n (lv' := [(0, .ref q), (1, .int (nI w)), (2, .int (nI v)), (3, .int (nI (k 1)))]) dX0_replace_49 rfl rfl (by decide) rfl ?_
      refine zV_aload_n dX0_replace_50 rfl 0 rfl rfl ?_
      refine zV_iload_n dX0_replace_51 rfl 2 rfl rfl ?_
      refine zV_puti 1 dX0_replace_52 rfl fl_RX0_15 hq (by decide) rfl rfl rfl ?_
      refine zV_goto (tgt := 94) dX0_replace_55 rfl ?_
      refine zV_iload_n dX0_replace_94 rfl 3 rfl rfl ?_
      exact zV_ireturn dX0_replace_95 rfl rfl (by (obtain rfl : w = 1 := (by omega)); exact ⟨_, rfl, rfl, (fun f hf => by rcases (show f = 0 ∨ f = 1 ∨ f = 2 ∨ f = 3 ∨ f = 4 ∨ f = 5 by omega) with rfl | rfl | rfl | rfl | rfl | rfl <;> simp [up2, k_set, hK 0 (by decide), hK 1 (by decide), hK 2 (by decide), hK 3 (by decide), hK 4 (by decide), hK 5 (by decide)]), (fun i hi => by funext b; simp [up2, hi])⟩)
    · refine ⟨_, 58, rfl, rfl, ?_⟩
      refine zV_aload_n dX0_replace_58 rfl 0 rfl rfl ?_
      refine zV_getI (x := (nI (k 2))) 2 dX0_replace_59 rfl fl_RX0_18 hq (by decide) rfl (hK 2 (by decide)) ?_
      refine zV_istore_n (lv' := [(0, .ref q), (1, .int (nI w)), (2, .int (nI v)), (3, .int (nI (k 2)))]) dX0_replace_62 rfl rfl (by decide) rfl ?_
      refine zV_aload_n dX0_replace_63 rfl 0 rfl rfl ?_
      refine zV_iload_n dX0_replace_64 rfl 2 rfl rfl ?_
      refine zV_puti 2 dX0_replace_65 rfl fl_RX0_18 hq (by decide) rfl rfl rfl ?_
      refine zV_goto (tgt := 94) dX0_replace_68 rfl ?_
      refine zV_iload_n dX0_replace_94 rfl 3 rfl rfl ?_
      exact zV_ireturn dX0_replace_95 rfl rfl (by (obtain rfl : w = 2 := (by omega)); exact ⟨_, rfl, rfl, (fun f hf => by rcases (show f = 0 ∨ f = 1 ∨ f = 2 ∨ f = 3 ∨ f = 4 ∨ f = 5 by omega) with rfl | rfl | rfl | rfl | rfl | rfl <;> simp [up2, k_set, hK 0 (by decide), hK 1 (by decide), hK 2 (by decide), hK 3 (by decide), hK 4 (by decide), hK 5 (by decide)]), (fun i hi => by funext b; simp [up2, hi])⟩)
    · refine ⟨_, 71, rfl, rfl, ?_⟩
      refine zV_aload_n dX0_replace_71 rfl 0 rfl rfl ?_
      refine zV_getI (x := (nI (k 3))) 3 dX0_replace_72 rfl fl_RX0_21 hq (by decide) rfl (hK 3 (by decide)) ?_
      refine zV_istore_n (lv' := [(0, .ref q), (1, .int (nI w)), (2, .int (nI v)), (3, .int (nI (k 3)))]) dX0_replace_75 rfl rfl (by decide) rfl ?_
      refine zV_aload_n dX0_replace_76 rfl 0 rfl rfl ?_
      refine zV_iload_n dX0_replace_77 rfl 2 rfl rfl ?_
      refine zV_puti 3 dX0_replace_78 rfl fl_RX0_21 hq (by decide) rfl rfl rfl ?_
      refine zV_goto (tgt := 94) dX0_replace_81 rfl ?_
      refine zV_iload_n dX0_replace_94 rfl 3 rfl rfl ?_
      exact zV_ireturn dX0_replace_95 rfl rfl (by (obtain rfl : w = 3 := (by omega)); exact ⟨_, rfl, rfl, (fun f hf => by rcases (show f = 0 ∨ f = 1 ∨ f = 2 ∨ f = 3 ∨ f = 4 ∨ f = 5 by omega) with rfl | rfl | rfl | rfl | rfl | rfl <;> simp [up2, k_set, hK 0 (by decide), hK 1 (by decide), hK 2 (by decide), hK 3 (by decide), hK 4 (by decide), hK 5 (by decide)]), (fun i hi => by funext b; simp [up2, hi])⟩)

def k_isA (kd w : Nat) : Bool := decide (w = kd) || (!decide (kd = 0) && (decide (w = 0) || (decide (kd = 3) && decide (w = 2)) || (decide (kd = 4) && decide (w = 1)) || (decide (kd = 6) && decide (w = 5))))