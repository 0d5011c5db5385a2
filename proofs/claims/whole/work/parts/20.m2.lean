/-! THE REFERENCE: coins, pay, there -/
theorem bitsTo_test (P : Nat → Bool) : ∀ (n j : Nat), j < n → (bitsTo P n).testBit j = P j
  | 0, _, h => absurd h (Nat.not_lt_zero _)
  | n + 1, j, h => by
    rw [bitsTo]
    have hl := bitsTo_lt P n
    by_cases e : j = n
    · subst e
      by_cases hp : P j
      · rw [if_pos hp, hp, Nat.add_comm, Nat.testBit_two_pow_add_eq, Nat.testBit_lt_two_pow hl]; rfl
      · rw [if_neg hp, Nat.add_zero, Nat.testBit_lt_two_pow hl]; simpa using hp
    · by_cases hp : P n
      · rw [if_pos hp, Nat.add_comm, Nat.testBit_two_pow_add_gt (by omega)]
        exact bitsTo_test P n j (by omega)
      · rw [if_neg hp, Nat.add_zero]
        exact bitsTo_test P n j (by omega)
theorem ld_in_test {σ : aL} {p c : Nat} (h : c < σ.1) : (ld_in σ p).testBit c = decide (σ.2.1 c 1 = p) := bitsTo_test _ _ _ h
theorem ld_sumPT (σ : aL) (p : Nat) : ld_sumP σ (ld_in σ p) p = ld_sumT σ (ld_in σ p) := by
  refine fb_sm_cong (fun c hc => ?_)
  rw [ld_in_test hc]
  by_cases e : σ.2.1 c 1 = p
  · simp [e]
  · simp [e]
theorem z_mst {y : Int32} (h : inR y 4) : mostOf y = (if y = nI 0 then nI 6 else if y = nI 1 then nI 3 else if y = nI 4 then nI 1 else nI 99) := by
  obtain ⟨a, ha, rfl⟩ := (inR_iff (by decide)).mp h
  rcases (show a = 0 ∨ a = 1 ∨ a = 2 ∨ a = 3 ∨ a = 4 by omega) with rfl | rfl | rfl | rfl | rfl <;> decide
theorem z_mst' {y v : Int32} (h : ¬ inR y 4) : ¬ (0 ≤ v ∧ v ≤ mostOf y) := by
  intro q
  obtain ⟨f, a, hf, -, rfl, -⟩ := z_most q
  exact h ((inR_iff (by decide)).mpr ⟨f, by omega, rfl⟩)
set_option maxRecDepth 100000 in
theorem m_finding {G : mG} {I : Nat → Nat → Int32} {J : Nat → Nat → Int64} {t : Nat} {x : Int32} {w : Nat} (hx : x = fdg w) (hw : w < 7) : zC G yX7_finding (eX7_finding (g_rmv 0)) [.ref 76, .int x] (mm I J t) (fun r M => r = some (.int (fdg w)) ∧ M = mm (mTell I w) J t) := by
  refine zC_of (by decide +kernel) rfl (by decide) (Nat.le_of_ble_eq_true rfl) ?_
  show zV G (eX7_finding (g_rmv 0)) (0, 0) 0 [(0, .ref 76), (1, .int x)] [] (mm I J t) _
  refine zV_aload_n dX7_finding_0 rfl 0 rfl rfl ?_
  refine zV_getr (q' := 80) 4 dX7_finding_1 rfl fl_RX7_19 rfl (by decide) rfl rfl ?_
  refine zV_ldc (v := (-1000001)) dX7_finding_4 rfl tw970 ?_
  refine zV_iload_n dX7_finding_6 rfl 1 rfl rfl ?_
  refine zA_isub (z := (nI w)) dX7_finding_7 rfl  (by rw [hx]; exact z_fd hw) ?_
  refine zV_iconst (v := (nI 1)) dX7_finding_8 rfl rfl ?_
  refine zA_iadd (z := (nI (w + 1))) dX7_finding_9 rfl  (nI_add _ _) ?_
  refine zV_dup2 dX7_finding_10 rfl rfl rfl ?_
  refine zV_iald (x := (I 80 (w + 1))) (w + 1) dX7_finding_11 rfl rfl rfl (by omega) (by decide) rfl ?_
  refine zV_iconst (v := (nI 1)) dX7_finding_12 rfl rfl ?_
  refine zA_iadd (z := ((I 80 (w + 1)) + (nI 1))) dX7_finding_13 rfl  (rfl) ?_
  refine zV_iastore (w + 1) dX7_finding_14 rfl rfl rfl (by omega) (by decide)  ?_
  refine zV_aload_n dX7_finding_15 rfl 0 rfl rfl ?_
  refine zV_getr (q' := 80) 4 dX7_finding_16 rfl fl_RX7_19 rfl (by decide) rfl rfl ?_
  refine zV_iconst (v := (nI 0)) dX7_finding_19 rfl rfl ?_
  refine zV_dup2 dX7_finding_20 rfl rfl rfl ?_
  refine zV_iald (x := (I 80 0)) 0 dX7_finding_21 rfl rfl rfl (by decide) (by decide) (up2_nk (by omega)) ?_
  refine zV_iconst (v := (nI 1)) dX7_finding_22 rfl rfl ?_
  refine zA_iadd (z := ((I 80 0) + (nI 1))) dX7_finding_23 rfl  (rfl) ?_
  refine zV_iastore 0 dX7_finding_24 rfl rfl rfl (by decide) (by decide)  ?_
  refine zV_iload_n dX7_finding_25 rfl 1 rfl rfl ?_
  exact zV_ireturn dX7_finding_26 rfl rfl (⟨by rw [hx], rfl⟩)

def ld_strike (σ : aL) (kd kg sp p l : Nat) : aL := (σ.1 + 1, (fun c => if c = σ.1 then (fun f => if f = 0 then kd else if f = 1 then p else if f = 2 then kg else if f = 3 then sp else if f = 4 then l else 0) else σ.2.1 c), σ.2.2)
theorem ld_strike0 (σ : aL) (kd kg sp : Nat) : ld_strike σ kd kg sp 0 0 = ld_add σ kd kg sp := by
  unfold ld_strike ld_add
  congr 2
  funext c
  split
  · funext f
    repeat' split
    all_goals (first | rfl | omega)
  · rfl
theorem absR.strike {I : Nat → Nat → Int32} {σ : aL} {kd kg sp p l : Nat} (h : absR I 77 σ) : absR (up2 (up2 (up2 (up2 (up2 (up2 (up2 I 77 (13 + 6 * σ.1 + 0) (nI kd)) 77 (13 + 6 * σ.1 + 1) (nI p)) 77 (13 + 6 * σ.1 + 2) (nI kg)) 77 (13 + 6 * σ.1 + 3) (nI sp)) 77 (13 + 6 * σ.1 + 4) (nI l)) 77 (13 + 6 * σ.1 + 5) (nI 0)) 77 1 (nI (σ.1 + 1))) 77 (ld_strike σ kd kg sp p l) := by
  have g : ∀ k, k ≠ 1 → (k < 13 + 6 * σ.1 ∨ 13 + 6 * σ.1 + 6 ≤ k) → (up2 (up2 (up2 (up2 (up2 (up2 (up2 I 77 (13 + 6 * σ.1 + 0) (nI kd)) 77 (13 + 6 * σ.1 + 1) (nI p)) 77 (13 + 6 * σ.1 + 2) (nI kg)) 77 (13 + 6 * σ.1 + 3) (nI sp)) 77 (13 + 6 * σ.1 + 4) (nI l)) 77 (13 + 6 * σ.1 + 5) (nI 0)) 77 1 (nI (σ.1 + 1))) 77 k = I 77 k := fun k h1 h2 => by
    rw [up2_nk h1, up2_nk (by omega), up2_nk (by omega), up2_nk (by omega), up2_nk (by omega), up2_nk (by omega), up2_nk (by omega)]
  refine ⟨by rw [g 0 (by decide) (by omega)]; exact h.1, up2_same _ _ _ _, by rw [g 2 (by decide) (by omega)]; exact h.2.2.1, fun s hs => by rw [g (3 + s) (by omega) (by omega)]; exact h.2.2.2.1 s hs, fun c hc f hf => ?_⟩
  have hc' : c < σ.1 + 1 := hc
  show _ = nI ((if c = σ.1 then (fun f => if f = 0 then kd else if f = 1 then p else if f = 2 then kg else if f = 3 then sp else if f = 4 then l else 0) else σ.2.1 c) f)
  by_cases e : c = σ.1
  · rw [if_pos e, e, up2_nk (by omega)]
    rcases (show f = 0 ∨ f = 1 ∨ f = 2 ∨ f = 3 ∨ f = 4 ∨ f = 5 by omega) with rfl | rfl | rfl | rfl | rfl | rfl
    · rw [up2_nk (by omega), up2_nk (by omega), up2_nk (by omega), up2_nk (by omega), up2_nk (by omega), up2_same]; rfl
    · rw [up2_nk (by omega), up2_nk (by omega), up2_nk (by omega), up2_nk (by omega), up2_same]; rfl
    · rw [up2_nk (by omega), up2_nk (by omega), up2_nk (by omega), up2_same]; rfl
    · rw [up2_nk (by omega), up2_nk (by omega), up2_same]; rfl
    · rw [up2_nk (by omega), up2_same]; rfl
    · rw [up2_same]; rfl
  · rw [if_neg e, g _ (by omega) (by omega)]
    exact h.2.2.2.2 c (by omega) f hf
set_option maxRecDepth 100000 in
theorem m_struck {G : mG} {I : Nat → Nat → Int32} {J : Nat → Nat → Int64} {t : Nat} {B : Nat} {σ : aL} (hR : absR I 77 σ) (hW : wfL B σ) {kd kg sp p l : Nat} (hn : σ.1 < 10) : zC G yX7_struck (eX7_struck (g_rmv 1)) [.ref 76, .int (nI kd), .int (nI kg), .int (nI sp), .int (nI p), .int (nI l)] (mm I J t) (fun r M => ∃ I', r = some (.int (nI σ.1)) ∧ M = mm I' J t ∧ absR I' 77 (ld_strike σ kd kg sp p l) ∧ frM I I') := by
  refine zC_of (by decide +kernel) rfl (by decide) (Nat.le_of_ble_eq_true rfl) ?_
  have n10 := hW.1
  show zV G (eX7_struck (g_rmv 1)) (0, 0) 0 [(0, .ref 76), (1, .int (nI kd)), (2, .int (nI kg)), (3, .int (nI sp)), (4, .int (nI p)), (5, .int (nI l))] [] (mm I J t) _
  refine zV_aload_n dX7_struck_0 rfl 0 rfl rfl ?_
  refine zV_getr (q' := 77) 0 dX7_struck_1 rfl fl_RX7_9 rfl (by decide) rfl rfl ?_
  refine zV_iconst (v := (nI 1)) dX7_struck_4 rfl rfl ?_
  refine zV_iald (x := (nI σ.1)) 1 dX7_struck_5 rfl rfl rfl (by decide) (by decide) hR.2.1 ?_
  refine zV_istore (lv' := [(0, .ref 76), (1, .int (nI kd)), (2, .int (nI kg)), (3, .int (nI sp)), (4, .int (nI p)), (5, .int (nI l)), (6, .int (nI σ.1))]) dX7_struck_6 rfl (by decide) rfl ?_
  refine zV_aload_n dX7_struck_8 rfl 0 rfl rfl ?_
  refine zV_getr (q' := 77) 0 dX7_struck_9 rfl fl_RX7_9 rfl (by decide) rfl rfl ?_
  refine zV_iload dX7_struck_12 rfl 6 rfl ?_
  refine zV_iconst (v := (nI 0)) dX7_struck_14 rfl rfl ?_
  refine zV_callS (E' := eX7_at (g_rmv 0)) (av := [.int (nI σ.1), .int (nI 0)]) (st := [.ref 77]) dX7_struck_15 rfl (k_RX7_80 _) rfl ⟨by decide, by decide⟩ ⟨by decide, by decide⟩ (Or.inl rfl) rfl (Nat.le_of_ble_eq_true rfl) (m_at (c := σ.1) (f := 0)) (fun r15 M15 z => ?_)
  obtain ⟨rfl, rfl⟩ := z
  show zV G (eX7_struck (g_rmv 1)) (0, 0) 18 [(0, .ref 76), (1, .int (nI kd)), (2, .int (nI kg)), (3, .int (nI sp)), (4, .int (nI p)), (5, .int (nI l)), (6, .int (nI σ.1))] [.int (nI (13 + 6 * σ.1 + 0)), .ref 77] (mm I J t) _
  refine zV_iload_n dX7_struck_18 rfl 1 rfl rfl ?_
  refine zV_iastore (13 + 6 * σ.1 + 0) dX7_struck_19 rfl rfl rfl (by omega) (by decide)  ?_
  refine zV_aload_n dX7_struck_20 rfl 0 rfl rfl ?_
  refine zV_getr (q' := 77) 0 dX7_struck_21 rfl fl_RX7_9 rfl (by decide) rfl rfl ?_
  refine zV_iload dX7_struck_24 rfl 6 rfl ?_
  refine zV_iconst (v := (nI 1)) dX7_struck_26 rfl rfl ?_
  refine zV_callS (E' := eX7_at (g_rmv 0)) (av := [.int (nI σ.1), .int (nI 1)]) (st := [.ref 77]) dX7_struck_27 rfl (k_RX7_80 _) rfl ⟨by decide, by decide⟩ ⟨by decide, by decide⟩ (Or.inl rfl) rfl (Nat.le_of_ble_eq_true rfl) (m_at (c := σ.1) (f := 1)) (fun r27 M27 z => ?_)
  obtain ⟨rfl, rfl⟩ := z
  show zV G (eX7_struck (g_rmv 1)) (0, 0) 30 [(0, .ref 76), (1, .int (nI kd)), (2, .int (nI kg)), (3, .int (nI sp)), (4, .int (nI p)), (5, .int (nI l)), (6, .int (nI σ.1))] [.int (nI (13 + 6 * σ.1 + 1)), .ref 77] (mm (up2 I 77 (13 + 6 * σ.1 + 0) (nI kd)) J t) _
  refine zV_iload dX7_struck_30 rfl 4 rfl ?_
  refine zV_iastore (13 + 6 * σ.1 + 1) dX7_struck_32 rfl rfl rfl (by omega) (by decide)  ?_
  refine zV_aload_n dX7_struck_33 rfl 0 rfl rfl ?_
  refine zV_getr (q' := 77) 0 dX7_struck_34 rfl fl_RX7_9 rfl (by decide) rfl rfl ?_
  refine zV_iload dX7_struck_37 rfl 6 rfl ?_
  refine zV_iconst (v := (nI 2)) dX7_struck_39 rfl rfl ?_
  refine zV_callS (E' := eX7_at (g_rmv 0)) (av := [.int (nI σ.1), .int (nI 2)]) (st := [.ref 77]) dX7_struck_40 rfl (k_RX7_80 _) rfl ⟨by decide, by decide⟩ ⟨by decide, by decide⟩ (Or.inl rfl) rfl (Nat.le_of_ble_eq_true rfl) (m_at (c := σ.1) (f := 2)) (fun r40 M40 z => ?_)
  obtain ⟨rfl, rfl⟩ := z
  show zV G (eX7_struck (g_rmv 1)) (0, 0) 43 [(0, .ref 76), (1, .int (nI kd)), (2, .int (nI kg)), (3, .int (nI sp)), (4, .int (nI p)), (5, .int (nI l)), (6, .int (nI σ.1))] [.int (nI (13 + 6 * σ.1 + 2)), .ref 77] (mm (up2 (up2 I 77 (13 + 6 * σ.1 + 0) (nI kd)) 77 (13 + 6 * σ.1 + 1) (nI p)) J t) _
  refine zV_iload_n dX7_struck_43 rfl 2 rfl rfl ?_
  refine zV_iastore (13 + 6 * σ.1 + 2) dX7_struck_44 rfl rfl rfl (by omega) (by decide)  ?_
  refine zV_aload_n dX7_struck_45 rfl 0 rfl rfl ?_
  refine zV_getr (q' := 77) 0 dX7_struck_46 rfl fl_RX7_9 rfl (by decide) rfl rfl ?_
  refine zV_iload dX7_struck_49 rfl 6 rfl ?_
  refine zV_iconst (v := (nI 3)) dX7_struck_51 rfl rfl ?_
  refine zV_callS (E' := eX7_at (g_rmv 0)) (av := [.int (nI σ.1), .int (nI 3)]) (st := [.ref 77]) dX7_struck_52 rfl (k_RX7_80 _) rfl ⟨by decide, by decide⟩ ⟨by decide, by decide⟩ (Or.inl rfl) rfl (Nat.le_of_ble_eq_true rfl) (m_at (c := σ.1) (f := 3)) (fun r52 M52 z => ?_)
  obtain ⟨rfl, rfl⟩ := z
  show zV G (eX7_struck (g_rmv 1)) (0, 0) 55 [(0, .ref 76), (1, .int (nI kd)), (2, .int (nI kg)), (3, .int (nI sp)), (4, .int (nI p)), (5, .int (nI l)), (6, .int (nI σ.1))] [.int (nI (13 + 6 * σ.1 + 3)), .ref 77] (mm (up2 (up2 (up2 I 77 (13 + 6 * σ.1 + 0) (nI kd)) 77 (13 + 6 * σ.1 + 1) (nI p)) 77 (13 + 6 * σ.1 + 2) (nI kg)) J t) _
  refine zV_iload_n dX7_struck_55 rfl 3 rfl rfl ?_
  refine zV_iastore (13 + 6 * σ.1 + 3) dX7_struck_56 rfl rfl rfl (by omega) (by decide)  ?_
  refine zV_aload_n dX7_struck_57 rfl 0 rfl rfl ?_
  refine zV_getr (q' := 77) 0 dX7_struck_58 rfl fl_RX7_9 rfl (by decide) rfl rfl ?_
  refine zV_iload dX7_struck_61 rfl 6 rfl ?_
  refine zV_iconst (v := (nI 4)) dX7_struck_63 rfl rfl ?_
  refine zV_callS (E' := eX7_at (g_rmv 0)) (av := [.int (nI σ.1), .int (nI 4)]) (st := [.ref 77]) dX7_struck_64 rfl (k_RX7_80 _) rfl ⟨by decide, by decide⟩ ⟨by decide, by decide⟩ (Or.inl rfl) rfl (Nat.le_of_ble_eq_true rfl) (m_at (c := σ.1) (f := 4)) (fun r64 M64 z => ?_)
  obtain ⟨rfl, rfl⟩ := z
  show zV G (eX7_struck (g_rmv 1)) (0, 0) 67 [(0, .ref 76), (1, .int (nI kd)), (2, .int (nI kg)), (3, .int (nI sp)), (4, .int (nI p)), (5, .int (nI l)), (6, .int (nI σ.1))] [.int (nI (13 + 6 * σ.1 + 4)), .ref 77] (mm (up2 (up2 (up2 (up2 I 77 (13 + 6 * σ.1 + 0) (nI kd)) 77 (13 + 6 * σ.1 + 1) (nI p)) 77 (13 + 6 * σ.1 + 2) (nI kg)) 77 (13 + 6 * σ.1 + 3) (nI sp)) J t) _
  refine zV_iload dX7_struck_67 rfl 5 rfl ?_
  refine zV_iastore (13 + 6 * σ.1 + 4) dX7_struck_69 rfl rfl rfl (by omega) (by decide)  ?_
  refine zV_aload_n dX7_struck_70 rfl 0 rfl rfl ?_
  refine zV_getr (q' := 77) 0 dX7_struck_71 rfl fl_RX7_9 rfl (by decide) rfl rfl ?_
  refine zV_iload dX7_struck_74 rfl 6 rfl ?_
  refine zV_iconst (v := (nI 5)) dX7_struck_76 rfl rfl ?_
  refine zV_callS (E' := eX7_at (g_rmv 0)) (av := [.int (nI σ.1), .int (nI 5)]) (st := [.ref 77]) dX7_struck_77 rfl (k_RX7_80 _) rfl ⟨by decide, by decide⟩ ⟨by decide, by decide⟩ (Or.inl rfl) rfl (Nat.le_of_ble_eq_true rfl) (m_at (c := σ.1) (f := 5)) (fun r77 M77 z => ?_)
  obtain ⟨rfl, rfl⟩ := z
  show zV G (eX7_struck (g_rmv 1)) (0, 0) 80 [(0, .ref 76), (1, .int (nI kd)), (2, .int (nI kg)), (3, .int (nI sp)), (4, .int (nI p)), (5, .int (nI l)), (6, .int (nI σ.1))] [.int (nI (13 + 6 * σ.1 + 5)), .ref 77] (mm (up2 (up2 (up2 (up2 (up2 I 77 (13 + 6 * σ.1 + 0) (nI kd)) 77 (13 + 6 * σ.1 + 1) (nI p)) 77 (13 + 6 * σ.1 + 2) (nI kg)) 77 (13 + 6 * σ.1 + 3) (nI sp)) 77 (13 + 6 * σ.1 + 4) (nI l)) J t) _
  refine zV_iconst (v := (nI 0)) dX7_struck_80 rfl rfl ?_
  refine zV_iastore (13 + 6 * σ.1 + 5) dX7_struck_81 rfl rfl rfl (by omega) (by decide)  ?_
  refine zV_aload_n dX7_struck_82 rfl 0 rfl rfl ?_
  refine zV_getr (q' := 77) 0 dX7_struck_83 rfl fl_RX7_9 rfl (by decide) rfl rfl ?_
  refine zV_iconst (v := (nI 1)) dX7_struck_86 rfl rfl ?_
  refine zV_dup2 dX7_struck_87 rfl rfl rfl ?_
  refine zV_iald (x := (nI σ.1)) 1 dX7_struck_88 rfl rfl rfl (by decide) (by decide) (by rw [up2_nk (by omega), up2_nk (by omega), up2_nk (by omega), up2_nk (by omega), up2_nk (by omega), up2_nk (by omega)]; exact hR.2.1) ?_
  refine zV_iconst (v := (nI 1)) dX7_struck_89 rfl rfl ?_
  refine zA_iadd (z := (nI (σ.1 + 1))) dX7_struck_90 rfl  (nI_add _ _) ?_
  refine zV_iastore 1 dX7_struck_91 rfl rfl rfl (by decide) (by decide)  ?_
  refine zV_iload dX7_struck_92 rfl 6 rfl ?_
  exact zV_ireturn dX7_struck_94 rfl rfl (⟨_, rfl, rfl, hR.strike, frM.up.tr (frM.up.tr (frM.up.tr (frM.up.tr (frM.up.tr (frM.up.tr frM.up)))))⟩)

set_option maxRecDepth 100000 in
theorem q_coin {G : mG} {I : Nat → Nat → Int32} {J : Nat → Nat → Int64} {t : Nat} {B : Nat} {S : aS} (hM : InvM I S) (hw : wfS B S) {x y z : Int32} : zC G yX7_coin (eX7_coin (g_rmv 2)) [.ref 76, .int x, .int y, .int z] (mm I J t) (fun r M => PM I (op_coin S x y z) r M) := by
  refine zC_of (by decide +kernel) rfl (by decide) (Nat.le_of_ble_eq_true rfl) ?_
  have n10 := hw.1.1
  show zV G (eX7_coin (g_rmv 2)) (0, 0) 0 [(0, .ref 76), (1, .int x), (2, .int y), (3, .int z)] [] (mm I J t) _
  refine zV_iload_n dX7_coin_0 rfl 1 rfl rfl ?_
  refine zV_callS (E' := eX7_isKind (g_rmv 1)) (av := [.int x]) (st := []) dX7_coin_1 rfl (k_RX7_84 _) rfl ⟨by decide, by decide⟩ ⟨by decide, by decide⟩ (Or.inl rfl) rfl (Nat.le_of_ble_eq_true rfl) (m_isKind (x := x)) (fun r1 M1 z => ?_)
  obtain ⟨rfl, rfl⟩ := z
  show zV G (eX7_coin (g_rmv 2)) (0, 0) 4 [(0, .ref 76), (1, .int x), (2, .int y), (3, .int z)] [.int (b2 (inR x 6))] (mm I J t) _
  refine zB_if_eq (tgt := 27) dX7_coin_4 rfl rfl  (fun h4 => ?_) (fun h4 => ?_)
  · refine zV_aload_n dX7_coin_27 rfl 0 rfl rfl ?_
    refine zV_ldc (v := (-1000001)) dX7_coin_28 rfl tw970 ?_
    refine zV_callV (E' := eX7_finding (g_rmv 0)) (av := [.int (-1000001)]) (st := []) (b := 76) dX7_coin_30 rfl (k_RX7_87 _) rfl ⟨by decide, by decide⟩ ⟨by decide, by decide⟩ (Or.inl rfl) rfl (Nat.le_of_ble_eq_true rfl) rfl rfl rfl (m_finding (w := 0) (by decide) (by decide)) (fun r30 M30 z => ?_)
    obtain ⟨rfl, rfl⟩ := z
    show zV G (eX7_coin (g_rmv 2)) (0, 0) 33 [(0, .ref 76), (1, .int x), (2, .int y), (3, .int z)] [.int (fdg 0)] (mm (mTell I 0) J t) _
    exact zV_ireturn dX7_coin_33 rfl rfl (PM.tell hM (by decide) (by unfold op_coin; rw [if_neg h4]) scM.rf)
  · refine zV_iload_n dX7_coin_7 rfl 2 rfl rfl ?_
    refine zV_iconst (v := (nI 0)) dX7_coin_8 rfl rfl ?_
    refine zV_bipush (v := (nI 99)) dX7_coin_9 rfl rfl ?_
    refine zV_callS (E' := eX7_within (g_rmv 0)) (av := [.int y, .int (nI 0), .int (nI 99)]) (st := []) dX7_coin_11 rfl (k_RX7_72 _) rfl ⟨by decide, by decide⟩ ⟨by decide, by decide⟩ (Or.inl rfl) rfl (Nat.le_of_ble_eq_true rfl) (m_within (x := y) (y := (nI 0)) (z := (nI 99))) (fun r11 M11 z => ?_)
    obtain ⟨rfl, rfl⟩ := z
    show zV G (eX7_coin (g_rmv 2)) (0, 0) 14 [(0, .ref 76), (1, .int x), (2, .int y), (3, .int z)] [.int (b2 (inR y 99))] (mm I J t) _
    refine zB_if_eq (tgt := 27) dX7_coin_14 rfl rfl  (fun h14 => ?_) (fun h14 => ?_)
    · refine zV_aload_n dX7_coin_27 rfl 0 rfl rfl ?_
      refine zV_ldc (v := (-1000001)) dX7_coin_28 rfl tw970 ?_
      refine zV_callV (E' := eX7_finding (g_rmv 0)) (av := [.int (-1000001)]) (st := []) (b := 76) dX7_coin_30 rfl (k_RX7_87 _) rfl ⟨by decide, by decide⟩ ⟨by decide, by decide⟩ (Or.inl rfl) rfl (Nat.le_of_ble_eq_true rfl) rfl rfl rfl (m_finding (w := 0) (by decide) (by decide)) (fun r30 M30 z => ?_)
      obtain ⟨rfl, rfl⟩ := z
      show zV G (eX7_coin (g_rmv 2)) (0, 0) 33 [(0, .ref 76), (1, .int x), (2, .int y), (3, .int z)] [.int (fdg 0)] (mm (mTell I 0) J t) _
      exact zV_ireturn dX7_coin_33 rfl rfl (PM.tell hM (by decide) (by unfold op_coin; rw [if_pos h4, if_neg h14]) scM.rf)
    · refine zV_iload_n dX7_coin_17 rfl 3 rfl rfl ?_
      refine zV_iconst (v := (nI 0)) dX7_coin_18 rfl rfl ?_
      refine zV_bipush (v := (nI 99)) dX7_coin_19 rfl rfl ?_
      refine zV_callS (E' := eX7_within (g_rmv 0)) (av := [.int z, .int (nI 0), .int (nI 99)]) (st := []) dX7_coin_21 rfl (k_RX7_72 _) rfl ⟨by decide, by decide⟩ ⟨by decide, by decide⟩ (Or.inl rfl) rfl (Nat.le_of_ble_eq_true rfl) (m_within (x := z) (y := (nI 0)) (z := (nI 99))) (fun r21 M21 z => ?_)
      obtain ⟨rfl, rfl⟩ := z
      show zV G (eX7_coin (g_rmv 2)) (0, 0) 24 [(0, .ref 76), (1, .int x), (2, .int y), (3, .int z)] [.int (b2 (inR z 99))] (mm I J t) _
      refine zB_if_ne (tgt := 34) dX7_coin_24 rfl rfl  (fun h24 => ?_) (fun h24 => ?_)
      · obtain ⟨a, ha, rfl⟩ := (inR_iff (by decide)).mp h4
        obtain ⟨b, hb, rfl⟩ := (inR_iff (by decide)).mp h14
        obtain ⟨c, hc, rfl⟩ := (inR_iff (by decide)).mp h24
        refine zV_aload_n dX7_coin_34 rfl 0 rfl rfl ?_
        refine zV_getr (q' := 77) 0 dX7_coin_35 rfl fl_RX7_9 rfl (by decide) rfl rfl ?_
        refine zV_iconst (v := (nI 1)) dX7_coin_38 rfl rfl ?_
        refine zV_iald (x := (nI S.1.1)) 1 dX7_coin_39 rfl rfl rfl (by decide) (by decide) hM.1.2.1 ?_
        refine zV_bipush (v := (nI 10)) dX7_coin_40 rfl rfl ?_
        refine zN_icmp_ne (tgt := 54) dX7_coin_42 rfl rfl (by omega) (by omega) (fun h42 => ?_) (fun h42 => ?_)
        · refine zV_aload_n dX7_coin_54 rfl 0 rfl rfl ?_
          refine zV_iload_n dX7_coin_55 rfl 1 rfl rfl ?_
          refine zV_iload_n dX7_coin_56 rfl 2 rfl rfl ?_
          refine zV_iload_n dX7_coin_57 rfl 3 rfl rfl ?_
          refine zV_iconst (v := (nI 0)) dX7_coin_58 rfl rfl ?_
          refine zV_iconst (v := (nI 0)) dX7_coin_59 rfl rfl ?_
          refine zV_callV (E' := eX7_struck (g_rmv 1)) (av := [.int (nI a), .int (nI b), .int (nI c), .int (nI 0), .int (nI 0)]) (st := []) (b := 76) dX7_coin_60 rfl (k_RX7_92 _) rfl ⟨by decide, by decide⟩ ⟨by decide, by decide⟩ (Or.inl rfl) rfl (Nat.le_of_ble_eq_true rfl) rfl rfl rfl (m_struck (kd := a) (kg := b) (sp := c) (p := 0) (l := 0) hM.1 hw.1 (by omega)) (fun r60 M60 z => ?_)
          obtain ⟨I60, rfl, rfl, hR60, hF60⟩ := z
          show zV G (eX7_coin (g_rmv 2)) (0, 0) 63 [(0, .ref 76), (1, .int (nI a)), (2, .int (nI b)), (3, .int (nI c))] [.int (nI S.1.1)] (mm I60 J t) _
          exact zV_ireturn dX7_coin_63 rfl rfl (PM.land hM (by unfold op_coin; rw [if_pos h4, if_pos h14, if_pos h24, if_neg (show ¬ (S.1.1 = 10) by omega), tn_nI (show a < 2 ^ 31 by omega), tn_nI (show b < 2 ^ 31 by omega), tn_nI (show c < 2 ^ 31 by omega), ← ld_strike0]) scM.rf hR60 hF60)
        · refine zV_aload_n dX7_coin_45 rfl 0 rfl rfl ?_
          refine zV_ldc (v := (-1000002)) dX7_coin_46 rfl tw975 ?_
          refine zV_callV (E' := eX7_finding (g_rmv 0)) (av := [.int (-1000002)]) (st := []) (b := 76) dX7_coin_48 rfl (k_RX7_87 _) rfl ⟨by decide, by decide⟩ ⟨by decide, by decide⟩ (Or.inl rfl) rfl (Nat.le_of_ble_eq_true rfl) rfl rfl rfl (m_finding (w := 1) (by decide) (by decide)) (fun r48 M48 z => ?_)
          obtain ⟨rfl, rfl⟩ := z
          show zV G (eX7_coin (g_rmv 2)) (0, 0) 51 [(0, .ref 76), (1, .int (nI a)), (2, .int (nI b)), (3, .int (nI c))] [.int (fdg 1)] (mm (mTell I 1) J t) _
          refine zV_goto (tgt := 63) dX7_coin_51 rfl ?_
          exact zV_ireturn dX7_coin_63 rfl rfl (PM.tell hM (by decide) (by unfold op_coin; rw [if_pos h4, if_pos h14, if_pos h24, if_pos (show S.1.1 = 10 by omega)]) scM.rf)
      · refine zV_aload_n dX7_coin_27 rfl 0 rfl rfl ?_
        refine zV_ldc (v := (-1000001)) dX7_coin_28 rfl tw970 ?_
        refine zV_callV (E' := eX7_finding (g_rmv 0)) (av := [.int (-1000001)]) (st := []) (b := 76) dX7_coin_30 rfl (k_RX7_87 _) rfl ⟨by decide, by decide⟩ ⟨by decide, by decide⟩ (Or.inl rfl) rfl (Nat.le_of_ble_eq_true rfl) rfl rfl rfl (m_finding (w := 0) (by decide) (by decide)) (fun r30 M30 z => ?_)
        obtain ⟨rfl, rfl⟩ := z
        show zV G (eX7_coin (g_rmv 2)) (0, 0) 33 [(0, .ref 76), (1, .int x), (2, .int y), (3, .int z)] [.int (fdg 0)] (mm (mTell I 0) J t) _
        exact zV_ireturn dX7_coin_33 rfl rfl (PM.tell hM (by decide) (by unfold op_coin; rw [if_pos h4, if_pos h14, if_neg h24]) scM.rf)

set_option maxRecDepth 100000 in
theorem q_of {G : mG} {I : Nat → Nat → Int32} {J : Nat → Nat → Int64} {t : Nat} {B : Nat} {S : aS} (hM : InvM I S) (hw : wfS B S) {x y : Int32} : zC G yX7_of (eX7_of (g_rmv 4)) [.ref 76, .int x, .int y] (mm I J t) (fun r M => PM I (op_of S x y) r M) := by
  refine zC_of (by decide +kernel) rfl (by decide) (Nat.le_of_ble_eq_true rfl) ?_
  have n10 := hw.1.1
  show zV G (eX7_of (g_rmv 4)) (0, 0) 0 [(0, .ref 76), (1, .int x), (2, .int y)] [] (mm I J t) _
  refine zV_aload_n dX7_of_0 rfl 0 rfl rfl ?_
  refine zV_iload_n dX7_of_1 rfl 1 rfl rfl ?_
  refine zV_callV (E' := eX7_isCoin (g_rmv 1)) (av := [.int x]) (st := []) (b := 76) dX7_of_2 rfl (k_RX7_124 _) rfl ⟨by decide, by decide⟩ ⟨by decide, by decide⟩ (Or.inl rfl) rfl (Nat.le_of_ble_eq_true rfl) rfl rfl rfl (m_isCoin (x := x) hM.1 hw.1) (fun r2 M2 z => ?_)
  obtain ⟨rfl, rfl⟩ := z
  show zV G (eX7_of (g_rmv 4)) (0, 0) 5 [(0, .ref 76), (1, .int x), (2, .int y)] [.int (b2 (hasC S.1.1 x))] (mm I J t) _
  refine zB_if_eq (tgt := 18) dX7_of_5 rfl rfl  (fun h5 => ?_) (fun h5 => ?_)
  · refine zV_aload_n dX7_of_18 rfl 0 rfl rfl ?_
    refine zV_ldc (v := (-1000001)) dX7_of_19 rfl tw970 ?_
    refine zV_callV (E' := eX7_finding (g_rmv 0)) (av := [.int (-1000001)]) (st := []) (b := 76) dX7_of_21 rfl (k_RX7_87 _) rfl ⟨by decide, by decide⟩ ⟨by decide, by decide⟩ (Or.inl rfl) rfl (Nat.le_of_ble_eq_true rfl) rfl rfl rfl (m_finding (w := 0) (by decide) (by decide)) (fun r21 M21 z => ?_)
    obtain ⟨rfl, rfl⟩ := z
    show zV G (eX7_of (g_rmv 4)) (0, 0) 24 [(0, .ref 76), (1, .int x), (2, .int y)] [.int (fdg 0)] (mm (mTell I 0) J t) _
    exact zV_ireturn dX7_of_24 rfl rfl (PM.tell hM (by decide) (by unfold op_of; rw [if_neg h5]) scM.rf)
  · refine zV_iload_n dX7_of_8 rfl 2 rfl rfl ?_
    refine zV_iconst (v := (nI 0)) dX7_of_9 rfl rfl ?_
    refine zV_bipush (v := (nI 6)) dX7_of_10 rfl rfl ?_
    refine zV_callS (E' := eX7_within (g_rmv 0)) (av := [.int y, .int (nI 0), .int (nI 6)]) (st := []) dX7_of_12 rfl (k_RX7_72 _) rfl ⟨by decide, by decide⟩ ⟨by decide, by decide⟩ (Or.inl rfl) rfl (Nat.le_of_ble_eq_true rfl) (m_within (x := y) (y := (nI 0)) (z := (nI 6))) (fun r12 M12 z => ?_)
    obtain ⟨rfl, rfl⟩ := z
    show zV G (eX7_of (g_rmv 4)) (0, 0) 15 [(0, .ref 76), (1, .int x), (2, .int y)] [.int (b2 (inR y 6))] (mm I J t) _
    refine zB_if_ne (tgt := 25) dX7_of_15 rfl rfl  (fun h15 => ?_) (fun h15 => ?_)
    · obtain ⟨c, hc, rfl⟩ := z_has n10 h5
      obtain ⟨f, hf6, rfl⟩ := (inR_iff (by decide)).mp h15
      have w := hw.1.2.1 c hc
      refine zV_iload_n dX7_of_25 rfl 2 rfl rfl ?_
      refine zV_bipush (v := (nI 6)) dX7_of_26 rfl rfl ?_
      refine zN_icmp_ne (tgt := 39) dX7_of_28 rfl rfl (by omega) (by omega) (fun h28 => ?_) (fun h28 => ?_)
      · refine zV_aload_n dX7_of_39 rfl 0 rfl rfl ?_
        refine zV_iload_n dX7_of_40 rfl 1 rfl rfl ?_
        refine zV_iload_n dX7_of_41 rfl 2 rfl rfl ?_
        refine zV_callV (E' := eX7_coinIs (g_rmv 1)) (av := [.int (nI c), .int (nI f)]) (st := []) (b := 76) dX7_of_42 rfl (k_RX7_99 _) rfl ⟨by decide, by decide⟩ ⟨by decide, by decide⟩ (Or.inl rfl) rfl (Nat.le_of_ble_eq_true rfl) rfl rfl rfl (m_coinIs (c := c) (f := f) hM.1 hw.1 hc (by omega)) (fun r42 M42 z => ?_)
        obtain ⟨rfl, rfl⟩ := z
        show zV G (eX7_of (g_rmv 4)) (0, 0) 45 [(0, .ref 76), (1, .int (nI c)), (2, .int (nI f))] [.int (nI (S.1.2.1 c f))] (mm I J t) _
        exact zV_ireturn dX7_of_45 rfl rfl (PM.same hM (by unfold op_of; rw [if_pos h5, if_pos (show inR (nI f) 5 from (inR_iff (by decide)).mpr ⟨f, by omega, rfl⟩), tn_nI (show c < 2 ^ 31 by omega), tn_nI (show f < 2 ^ 31 by omega)]) scM.rf)
      · refine zV_aload_n dX7_of_31 rfl 0 rfl rfl ?_
        refine zV_iload_n dX7_of_32 rfl 1 rfl rfl ?_
        refine zV_callV (E' := eX7_worth (g_rmv 3)) (av := [.int (nI c)]) (st := []) (b := 76) dX7_of_33 rfl (k_RX7_127 _) rfl ⟨by decide, by decide⟩ ⟨by decide, by decide⟩ (Or.inl rfl) rfl (Nat.le_of_ble_eq_true rfl) rfl rfl rfl (m_worth (c := c) hM.1 hw.1 hc) (fun r33 M33 z => ?_)
        obtain ⟨rfl, rfl⟩ := z
        show zV G (eX7_of (g_rmv 4)) (0, 0) 36 [(0, .ref 76), (1, .int (nI c)), (2, .int (nI f))] [.int (nI (k_now (S.1.2.1 c)))] (mm I J t) _
        refine zV_goto (tgt := 45) dX7_of_36 rfl ?_
        exact zV_ireturn dX7_of_45 rfl rfl (PM.same hM (by subst h28; unfold op_of; rw [if_pos h5, if_neg (show ¬ inR (nI 6) 5 by decide), if_pos rfl, tn_nI (show c < 2 ^ 31 by omega)]) scM.rf)
    · refine zV_aload_n dX7_of_18 rfl 0 rfl rfl ?_
      refine zV_ldc (v := (-1000001)) dX7_of_19 rfl tw970 ?_
      refine zV_callV (E' := eX7_finding (g_rmv 0)) (av := [.int (-1000001)]) (st := []) (b := 76) dX7_of_21 rfl (k_RX7_87 _) rfl ⟨by decide, by decide⟩ ⟨by decide, by decide⟩ (Or.inl rfl) rfl (Nat.le_of_ble_eq_true rfl) rfl rfl rfl (m_finding (w := 0) (by decide) (by decide)) (fun r21 M21 z => ?_)
      obtain ⟨rfl, rfl⟩ := z
      show zV G (eX7_of (g_rmv 4)) (0, 0) 24 [(0, .ref 76), (1, .int x), (2, .int y)] [.int (fdg 0)] (mm (mTell I 0) J t) _
      exact zV_ireturn dX7_of_24 rfl rfl (PM.tell hM (by decide) (by unfold op_of; rw [if_pos h5, if_neg (show ¬ inR y 5 from fun q => h15 ⟨q.1, Int32.le_trans q.2 (by decide)⟩), if_neg (show ¬ y = nI 6 from fun q => h15 (by rw [q]; decide))]) scM.rf)

set_option maxRecDepth 100000 in
theorem q_turn {G : mG} {I : Nat → Nat → Int32} {J : Nat → Nat → Int64} {t : Nat} {B : Nat} {S : aS} (hM : InvM I S) (hw : wfS B S) (hB : B + 2 < 1000000) {x : Int32} : zC G yX7_turn (eX7_turn (g_rmv 4)) [.ref 76, .int x] (mm I J t) (fun r M => PM I (op_turn S x) r M) := by
  refine zC_of (by decide +kernel) rfl (by decide) (Nat.le_of_ble_eq_true rfl) ?_
  have n10 := hw.1.1
  show zV G (eX7_turn (g_rmv 4)) (0, 0) 0 [(0, .ref 76), (1, .int x)] [] (mm I J t) _
  refine zV_aload_n dX7_turn_0 rfl 0 rfl rfl ?_
  refine zV_iload_n dX7_turn_1 rfl 1 rfl rfl ?_
  refine zV_callV (E' := eX7_isCoin (g_rmv 1)) (av := [.int x]) (st := []) (b := 76) dX7_turn_2 rfl (k_RX7_124 _) rfl ⟨by decide, by decide⟩ ⟨by decide, by decide⟩ (Or.inl rfl) rfl (Nat.le_of_ble_eq_true rfl) rfl rfl rfl (m_isCoin (x := x) hM.1 hw.1) (fun r2 M2 z => ?_)
  obtain ⟨rfl, rfl⟩ := z
  show zV G (eX7_turn (g_rmv 4)) (0, 0) 5 [(0, .ref 76), (1, .int x)] [.int (b2 (hasC S.1.1 x))] (mm I J t) _
  refine zB_if_ne (tgt := 15) dX7_turn_5 rfl rfl  (fun h5 => ?_) (fun h5 => ?_)
  · obtain ⟨c, hc, rfl⟩ := z_has n10 h5
    have w := hw.1.2.1 c hc
    refine zV_aload_n dX7_turn_15 rfl 0 rfl rfl ?_
    refine zV_iload_n dX7_turn_16 rfl 1 rfl rfl ?_
    refine zV_callV (E' := eX7_turnsOver (g_rmv 3)) (av := [.int (nI c)]) (st := []) (b := 76) dX7_turn_17 rfl (k_RX7_120 _) rfl ⟨by decide, by decide⟩ ⟨by decide, by decide⟩ (Or.inl rfl) rfl (Nat.le_of_ble_eq_true rfl) rfl rfl rfl (m_turnsOver (c := c) hM.1 hw.1 hc) (fun r17 M17 z => ?_)
    obtain ⟨I17, rfl, rfl, hR17, hF17⟩ := z
    show zV G (eX7_turn (g_rmv 4)) (0, 0) 20 [(0, .ref 76), (1, .int (nI c))] [] (mm I17 J t) _
    refine zV_aload_n dX7_turn_20 rfl 0 rfl rfl ?_
    refine zV_iload_n dX7_turn_21 rfl 1 rfl rfl ?_
    refine zV_callV (E' := eX7_worth (g_rmv 3)) (av := [.int (nI c)]) (st := []) (b := 76) dX7_turn_22 rfl (k_RX7_127 _) rfl ⟨by decide, by decide⟩ ⟨by decide, by decide⟩ (Or.inl rfl) rfl (Nat.le_of_ble_eq_true rfl) rfl rfl rfl (m_worth (σ := ld_cset S.1 c (k_turn (S.1.2.1 c))) (c := c) hR17 (wf_cset hw.1 (wf_turn w hB) (by omega)) hc) (fun r22 M22 z => ?_)
    obtain ⟨rfl, rfl⟩ := z
    show zV G (eX7_turn (g_rmv 4)) (0, 0) 25 [(0, .ref 76), (1, .int (nI c))] [.int (nI (k_now ((ld_cset S.1 c (k_turn (S.1.2.1 c))).2.1 c)))] (mm I17 J t) _
    exact zV_ireturn dX7_turn_25 rfl rfl (PM.land hM (by unfold op_turn; rw [if_pos h5, tn_nI (show c < 2 ^ 31 by omega), ld_cset_at]) scM.rf hR17 hF17)
  · refine zV_aload_n dX7_turn_8 rfl 0 rfl rfl ?_
    refine zV_ldc (v := (-1000001)) dX7_turn_9 rfl tw970 ?_
    refine zV_callV (E' := eX7_finding (g_rmv 0)) (av := [.int (-1000001)]) (st := []) (b := 76) dX7_turn_11 rfl (k_RX7_87 _) rfl ⟨by decide, by decide⟩ ⟨by decide, by decide⟩ (Or.inl rfl) rfl (Nat.le_of_ble_eq_true rfl) rfl rfl rfl (m_finding (w := 0) (by decide) (by decide)) (fun r11 M11 z => ?_)
    obtain ⟨rfl, rfl⟩ := z
    show zV G (eX7_turn (g_rmv 4)) (0, 0) 14 [(0, .ref 76), (1, .int x)] [.int (fdg 0)] (mm (mTell I 0) J t) _
    exact zV_ireturn dX7_turn_14 rfl rfl (PM.tell hM (by decide) (by unfold op_turn; rw [if_neg h5]) scM.rf)

set_option maxRecDepth 100000 in
theorem q_sum {G : mG} {I : Nat → Nat → Int32} {J : Nat → Nat → Int64} {t : Nat} {B : Nat} {S : aS} (hM : InvM I S) (hw : wfS B S) {x : Int32} : zC G yX7_sum (eX7_sum (g_rmv 5)) [.ref 76, .int x] (mm I J t) (fun r M => PM I (op_sum S x) r M) := by
  refine zC_of (by decide +kernel) rfl (by decide) (Nat.le_of_ble_eq_true rfl) ?_
  have n10 := hw.1.1
  show zV G (eX7_sum (g_rmv 5)) (0, 0) 0 [(0, .ref 76), (1, .int x)] [] (mm I J t) _
  refine zV_aload_n dX7_sum_0 rfl 0 rfl rfl ?_
  refine zV_iload_n dX7_sum_1 rfl 1 rfl rfl ?_
  refine zV_callV (E' := eX7_isSet (g_rmv 1)) (av := [.int x]) (st := []) (b := 76) dX7_sum_2 rfl (k_RX7_152 _) rfl ⟨by decide, by decide⟩ ⟨by decide, by decide⟩ (Or.inl rfl) rfl (Nat.le_of_ble_eq_true rfl) rfl rfl rfl (m_isSet (x := x) hM.1 hw.1) (fun r2 M2 z => ?_)
  obtain ⟨rfl, rfl⟩ := z
  show zV G (eX7_sum (g_rmv 5)) (0, 0) 5 [(0, .ref 76), (1, .int x)] [.int (b2 (isSet S.1.1 x))] (mm I J t) _
  refine zB_if_eq (tgt := 16) dX7_sum_5 rfl rfl  (fun h5 => ?_) (fun h5 => ?_)
  · refine zV_aload_n dX7_sum_16 rfl 0 rfl rfl ?_
    refine zV_ldc (v := (-1000001)) dX7_sum_17 rfl tw970 ?_
    refine zV_callV (E' := eX7_finding (g_rmv 0)) (av := [.int (-1000001)]) (st := []) (b := 76) dX7_sum_19 rfl (k_RX7_87 _) rfl ⟨by decide, by decide⟩ ⟨by decide, by decide⟩ (Or.inl rfl) rfl (Nat.le_of_ble_eq_true rfl) rfl rfl rfl (m_finding (w := 0) (by decide) (by decide)) (fun r19 M19 z => ?_)
    obtain ⟨rfl, rfl⟩ := z
    show zV G (eX7_sum (g_rmv 5)) (0, 0) 22 [(0, .ref 76), (1, .int x)] [.int (fdg 0)] (mm (mTell I 0) J t) _
    exact zV_ireturn dX7_sum_22 rfl rfl (PM.tell hM (by decide) (by unfold op_sum; rw [if_neg h5]) scM.rf)
  · obtain ⟨s, hs, hs1, rfl⟩ := z_sets n10 h5
    refine zV_aload_n dX7_sum_8 rfl 0 rfl rfl ?_
    refine zV_iload_n dX7_sum_9 rfl 1 rfl rfl ?_
    refine zV_callV (E' := eX7_sumOf (g_rmv 4)) (av := [.int (nI s)]) (st := []) (b := 76) dX7_sum_10 rfl (k_RX7_142 _) rfl ⟨by decide, by decide⟩ ⟨by decide, by decide⟩ (Or.inl rfl) rfl (Nat.le_of_ble_eq_true rfl) rfl rfl rfl (m_sumOf (s := s) hM.1 hw.1 (by omega)) (fun r10 M10 z => ?_)
    obtain ⟨rfl, rfl⟩ := z
    show zV G (eX7_sum (g_rmv 5)) (0, 0) 13 [(0, .ref 76), (1, .int (nI s))] [.int (nI (ld_sum S.1 s))] (mm I J t) _
    refine zV_goto (tgt := 22) dX7_sum_13 rfl ?_
    exact zV_ireturn dX7_sum_22 rfl rfl (PM.same hM (by unfold op_sum; rw [if_pos h5, tn_nI (show s < 2 ^ 31 by omega)]) scM.rf)

set_option maxRecDepth 100000 in
theorem q_purse {G : mG} {I : Nat → Nat → Int32} {J : Nat → Nat → Int64} {t : Nat} {B : Nat} {S : aS} (hM : InvM I S) (hw : wfS B S) {x y : Int32} : zC G yX7_purse (eX7_purse (g_rmv 5)) [.ref 76, .int x, .int y] (mm I J t) (fun r M => PM I (op_purse S x y) r M) := by
  refine zC_of (by decide +kernel) rfl (by decide) (Nat.le_of_ble_eq_true rfl) ?_
  have n10 := hw.1.1
  show zV G (eX7_purse (g_rmv 5)) (0, 0) 0 [(0, .ref 76), (1, .int x), (2, .int y)] [] (mm I J t) _
  refine zV_iload_n dX7_purse_0 rfl 1 rfl rfl ?_
  refine zV_callS (E' := eX7_isPurse (g_rmv 1)) (av := [.int x]) (st := []) dX7_purse_1 rfl (k_RX7_76 _) rfl ⟨by decide, by decide⟩ ⟨by decide, by decide⟩ (Or.inl rfl) rfl (Nat.le_of_ble_eq_true rfl) (m_isPurse (x := x)) (fun r1 M1 z => ?_)
  obtain ⟨rfl, rfl⟩ := z
  show zV G (eX7_purse (g_rmv 5)) (0, 0) 4 [(0, .ref 76), (1, .int x), (2, .int y)] [.int (b2 (inR x 3))] (mm I J t) _
  refine zB_if_eq (tgt := 16) dX7_purse_4 rfl rfl  (fun h4 => ?_) (fun h4 => ?_)
  · refine zV_aload_n dX7_purse_16 rfl 0 rfl rfl ?_
    refine zV_ldc (v := (-1000001)) dX7_purse_17 rfl tw970 ?_
    refine zV_callV (E' := eX7_finding (g_rmv 0)) (av := [.int (-1000001)]) (st := []) (b := 76) dX7_purse_19 rfl (k_RX7_87 _) rfl ⟨by decide, by decide⟩ ⟨by decide, by decide⟩ (Or.inl rfl) rfl (Nat.le_of_ble_eq_true rfl) rfl rfl rfl (m_finding (w := 0) (by decide) (by decide)) (fun r19 M19 z => ?_)
    obtain ⟨rfl, rfl⟩ := z
    show zV G (eX7_purse (g_rmv 5)) (0, 0) 22 [(0, .ref 76), (1, .int x), (2, .int y)] [.int (fdg 0)] (mm (mTell I 0) J t) _
    exact zV_ireturn dX7_purse_22 rfl rfl (PM.tell hM (by decide) (by unfold op_purse; rw [if_neg h4]) scM.rf)
  · refine zV_iload_n dX7_purse_7 rfl 2 rfl rfl ?_
    refine zV_iconst (v := (nI 0)) dX7_purse_8 rfl rfl ?_
    refine zV_iconst (v := (nI 3)) dX7_purse_9 rfl rfl ?_
    refine zV_callS (E' := eX7_within (g_rmv 0)) (av := [.int y, .int (nI 0), .int (nI 3)]) (st := []) dX7_purse_10 rfl (k_RX7_72 _) rfl ⟨by decide, by decide⟩ ⟨by decide, by decide⟩ (Or.inl rfl) rfl (Nat.le_of_ble_eq_true rfl) (m_within (x := y) (y := (nI 0)) (z := (nI 3))) (fun r10 M10 z => ?_)
    obtain ⟨rfl, rfl⟩ := z
    show zV G (eX7_purse (g_rmv 5)) (0, 0) 13 [(0, .ref 76), (1, .int x), (2, .int y)] [.int (b2 (inR y 3))] (mm I J t) _
    refine zB_if_ne (tgt := 23) dX7_purse_13 rfl rfl  (fun h13 => ?_) (fun h13 => ?_)
    · obtain ⟨p, hp, rfl⟩ := (inR_iff (by decide)).mp h4
      obtain ⟨f, hf3, rfl⟩ := (inR_iff (by decide)).mp h13
      refine zV_aload_n dX7_purse_23 rfl 0 rfl rfl ?_
      refine zV_iload_n dX7_purse_24 rfl 1 rfl rfl ?_
      refine zV_callV (E' := eX7_setOf (g_rmv 2)) (av := [.int (nI p)]) (st := []) (b := 76) dX7_purse_25 rfl (k_RX7_139 _) rfl ⟨by decide, by decide⟩ ⟨by decide, by decide⟩ (Or.inl rfl) rfl (Nat.le_of_ble_eq_true rfl) rfl rfl rfl (m_setOf (p := p) hM.1 hw.1 (by omega)) (fun r25 M25 z => ?_)
      obtain ⟨rfl, rfl⟩ := z
      show zV G (eX7_purse (g_rmv 5)) (0, 0) 28 [(0, .ref 76), (1, .int (nI p)), (2, .int (nI f))] [.int (nI (ld_in S.1 p))] (mm I J t) _
      refine zV_istore_n (lv' := [(0, .ref 76), (1, .int (nI p)), (2, .int (nI f)), (3, .int (nI (ld_in S.1 p)))]) dX7_purse_28 rfl rfl (by decide) rfl ?_
      refine zV_iload_n dX7_purse_29 rfl 2 rfl rfl ?_
      refine zN_if_ne (tgt := 37) dX7_purse_30 rfl rfl (by omega) (fun h30 => ?_) (fun h30 => ?_)
      · refine zV_iload_n dX7_purse_37 rfl 2 rfl rfl ?_
        refine zV_iconst (v := (nI 1)) dX7_purse_38 rfl rfl ?_
        refine zN_icmp_ne (tgt := 50) dX7_purse_39 rfl rfl (by omega) (by omega) (fun h39 => ?_) (fun h39 => ?_)
        · refine zV_iload_n dX7_purse_50 rfl 2 rfl rfl ?_
          refine zV_iconst (v := (nI 2)) dX7_purse_51 rfl rfl ?_
          refine zN_icmp_ne (tgt := 64) dX7_purse_52 rfl rfl (by omega) (by omega) (fun h52 => ?_) (fun h52 => ?_)
          · refine zV_aload_n dX7_purse_64 rfl 0 rfl rfl ?_
            refine zV_iload_n dX7_purse_65 rfl 3 rfl rfl ?_
            refine zV_iload_n dX7_purse_66 rfl 1 rfl rfl ?_
            refine zV_callV (E' := eX7_sumPaid (g_rmv 4)) (av := [.int (nI (ld_in S.1 p)), .int (nI p)]) (st := []) (b := 76) dX7_purse_67 rfl (k_RX7_149 _) rfl ⟨by decide, by decide⟩ ⟨by decide, by decide⟩ (Or.inl rfl) rfl (Nat.le_of_ble_eq_true rfl) rfl rfl rfl (m_sumPaid (s := (ld_in S.1 p)) (p := p) hM.1 hw.1 (Nat.lt_trans (ld_in_lt n10 _) (by decide)) (by omega)) (fun r67 M67 z => ?_)
            obtain ⟨rfl, rfl⟩ := z
            show zV G (eX7_purse (g_rmv 5)) (0, 0) 70 [(0, .ref 76), (1, .int (nI p)), (2, .int (nI f)), (3, .int (nI (ld_in S.1 p)))] [.int (nI (ld_sumP S.1 (ld_in S.1 p) p))] (mm I J t) _
            exact zV_ireturn dX7_purse_70 rfl rfl (PM.same hM (by (obtain rfl : f = 3 := (by omega)); unfold op_purse; rw [if_pos h4, if_neg (show ¬ nI 3 = nI 0 by decide), if_neg (show ¬ nI 3 = nI 1 by decide), if_neg (show ¬ nI 3 = nI 2 by decide), if_pos rfl, tn_nI (show p < 2 ^ 31 by omega), ld_sumPT]) scM.rf)
          · refine zV_iload_n dX7_purse_55 rfl 3 rfl rfl ?_
            refine zV_aload_n dX7_purse_56 rfl 0 rfl rfl ?_
            refine zV_callV (E' := eX7_shipUp (g_rmv 2)) (av := []) (st := [.int (nI (ld_in S.1 p))]) (b := 76) dX7_purse_57 rfl (k_RX7_145 _) rfl ⟨by decide, by decide⟩ ⟨by decide, by decide⟩ (Or.inl rfl) rfl (Nat.le_of_ble_eq_true rfl) rfl rfl rfl (m_shipUp hM.1 hw.1) (fun r57 M57 z => ?_)
            obtain ⟨rfl, rfl⟩ := z
            show zV G (eX7_purse (g_rmv 5)) (0, 0) 60 [(0, .ref 76), (1, .int (nI p)), (2, .int (nI f)), (3, .int (nI (ld_in S.1 p)))] [.int (nI (ld_ly S.1 1)), .int (nI (ld_in S.1 p))] (mm I J t) _
            refine zA_iand (z := (nI ((ld_in S.1 p) &&& (ld_ly S.1 1)))) dX7_purse_60 rfl  (fa_and _ _) ?_
            refine zV_goto (tgt := 70) dX7_purse_61 rfl ?_
            exact zV_ireturn dX7_purse_70 rfl rfl (PM.same hM (by (obtain rfl : f = 2 := (by omega)); unfold op_purse; rw [if_pos h4, if_neg (show ¬ nI 2 = nI 0 by decide), if_neg (show ¬ nI 2 = nI 1 by decide), if_pos rfl, tn_nI (show p < 2 ^ 31 by omega)]) scM.rf)
        · refine zV_aload_n dX7_purse_42 rfl 0 rfl rfl ?_
          refine zV_iload_n dX7_purse_43 rfl 3 rfl rfl ?_
          refine zV_callV (E' := eX7_sumOf (g_rmv 4)) (av := [.int (nI (ld_in S.1 p))]) (st := []) (b := 76) dX7_purse_44 rfl (k_RX7_142 _) rfl ⟨by decide, by decide⟩ ⟨by decide, by decide⟩ (Or.inl rfl) rfl (Nat.le_of_ble_eq_true rfl) rfl rfl rfl (m_sumOf (s := (ld_in S.1 p)) hM.1 hw.1 (Nat.lt_trans (ld_in_lt n10 _) (by decide))) (fun r44 M44 z => ?_)
          obtain ⟨rfl, rfl⟩ := z
          show zV G (eX7_purse (g_rmv 5)) (0, 0) 47 [(0, .ref 76), (1, .int (nI p)), (2, .int (nI f)), (3, .int (nI (ld_in S.1 p)))] [.int (nI (ld_sum S.1 (ld_in S.1 p)))] (mm I J t) _
          refine zV_goto (tgt := 70) dX7_purse_47 rfl ?_
          exact zV_ireturn dX7_purse_70 rfl rfl (PM.same hM (by (obtain rfl : f = 1 := (by omega)); unfold op_purse; rw [if_pos h4, if_neg (show ¬ nI 1 = nI 0 by decide), if_pos rfl, tn_nI (show p < 2 ^ 31 by omega)]) scM.rf)
      · refine zV_iload_n dX7_purse_33 rfl 3 rfl rfl ?_
        refine zV_goto (tgt := 70) dX7_purse_34 rfl ?_
        exact zV_ireturn dX7_purse_70 rfl rfl (PM.same hM (by (obtain rfl : f = 0 := (by omega)); unfold op_purse; rw [if_pos h4, if_pos rfl, tn_nI (show p < 2 ^ 31 by omega)]) scM.rf)
    · refine zV_aload_n dX7_purse_16 rfl 0 rfl rfl ?_
      refine zV_ldc (v := (-1000001)) dX7_purse_17 rfl tw970 ?_
      refine zV_callV (E' := eX7_finding (g_rmv 0)) (av := [.int (-1000001)]) (st := []) (b := 76) dX7_purse_19 rfl (k_RX7_87 _) rfl ⟨by decide, by decide⟩ ⟨by decide, by decide⟩ (Or.inl rfl) rfl (Nat.le_of_ble_eq_true rfl) rfl rfl rfl (m_finding (w := 0) (by decide) (by decide)) (fun r19 M19 z => ?_)
      obtain ⟨rfl, rfl⟩ := z
      show zV G (eX7_purse (g_rmv 5)) (0, 0) 22 [(0, .ref 76), (1, .int x), (2, .int y)] [.int (fdg 0)] (mm (mTell I 0) J t) _
      exact zV_ireturn dX7_purse_22 rfl rfl (PM.tell hM (by decide) (by unfold op_purse; rw [if_pos h4, if_neg (show ¬ y = nI 0 from fun q => h13 (by rw [q]; decide)), if_neg (show ¬ y = nI 1 from fun q => h13 (by rw [q]; decide)), if_neg (show ¬ y = nI 2 from fun q => h13 (by rw [q]; decide)), if_neg (show ¬ y = nI 3 from fun q => h13 (by rw [q]; decide))]) scM.rf)

set_option maxRecDepth 100000 in
theorem q_pay {G : mG} {I : Nat → Nat → Int32} {J : Nat → Nat → Int64} {t : Nat} {B : Nat} {S : aS} (hM : InvM I S) (hw : wfS B S) (hB : B + 4 < 1000000) {x y z : Int32} : zC G yX7_pay (eX7_pay (g_rmv 6)) [.ref 76, .int x, .int y, .int z] (mm I J t) (fun r M => PM I (op_pay S x y z) r M) := by
  refine zC_of (by decide +kernel) rfl (by decide) (Nat.le_of_ble_eq_true rfl) ?_
  have n10 := hw.1.1
  show zV G (eX7_pay (g_rmv 6)) (0, 0) 0 [(0, .ref 76), (1, .int x), (2, .int y), (3, .int z)] [] (mm I J t) _
  refine zV_iload_n dX7_pay_0 rfl 1 rfl rfl ?_
  refine zV_iload_n dX7_pay_1 rfl 2 rfl rfl ?_
  refine zV_callS (E' := eX7_areTwo (g_rmv 2)) (av := [.int x, .int y]) (st := []) dX7_pay_2 rfl (k_RX7_159 _) rfl ⟨by decide, by decide⟩ ⟨by decide, by decide⟩ (Or.inl rfl) rfl (Nat.le_of_ble_eq_true rfl) (m_two (x := x) (y := y)) (fun r2 M2 z => ?_)
  obtain ⟨rfl, rfl⟩ := z
  show zV G (eX7_pay (g_rmv 6)) (0, 0) 5 [(0, .ref 76), (1, .int x), (2, .int y), (3, .int z)] [.int (b2 (twoP x y))] (mm I J t) _
  refine zB_if_eq (tgt := 16) dX7_pay_5 rfl rfl  (fun h5 => ?_) (fun h5 => ?_)
  · refine zV_aload_n dX7_pay_16 rfl 0 rfl rfl ?_
    refine zV_ldc (v := (-1000001)) dX7_pay_17 rfl tw970 ?_
    refine zV_callV (E' := eX7_finding (g_rmv 0)) (av := [.int (-1000001)]) (st := []) (b := 76) dX7_pay_19 rfl (k_RX7_87 _) rfl ⟨by decide, by decide⟩ ⟨by decide, by decide⟩ (Or.inl rfl) rfl (Nat.le_of_ble_eq_true rfl) rfl rfl rfl (m_finding (w := 0) (by decide) (by decide)) (fun r19 M19 z => ?_)
    obtain ⟨rfl, rfl⟩ := z
    show zV G (eX7_pay (g_rmv 6)) (0, 0) 22 [(0, .ref 76), (1, .int x), (2, .int y), (3, .int z)] [.int (fdg 0)] (mm (mTell I 0) J t) _
    exact zV_ireturn dX7_pay_22 rfl rfl (PM.tell hM (by decide) (by unfold op_pay; rw [if_neg h5]) scM.rf)
  · obtain ⟨p, q, hp, hq, hpq, rfl, rfl⟩ := z_two h5
    refine zV_aload_n dX7_pay_8 rfl 0 rfl rfl ?_
    refine zV_iload_n dX7_pay_9 rfl 3 rfl rfl ?_
    refine zV_callV (E' := eX7_isSet (g_rmv 1)) (av := [.int z]) (st := []) (b := 76) dX7_pay_10 rfl (k_RX7_152 _) rfl ⟨by decide, by decide⟩ ⟨by decide, by decide⟩ (Or.inl rfl) rfl (Nat.le_of_ble_eq_true rfl) rfl rfl rfl (m_isSet (x := z) hM.1 hw.1) (fun r10 M10 z => ?_)
    obtain ⟨rfl, rfl⟩ := z
    show zV G (eX7_pay (g_rmv 6)) (0, 0) 13 [(0, .ref 76), (1, .int (nI p)), (2, .int (nI q)), (3, .int z)] [.int (b2 (isSet S.1.1 z))] (mm I J t) _
    refine zB_if_ne (tgt := 23) dX7_pay_13 rfl rfl  (fun h13 => ?_) (fun h13 => ?_)
    · obtain ⟨s, hs, hs1, rfl⟩ := z_sets n10 h13
      refine zV_iload_n dX7_pay_23 rfl 3 rfl rfl ?_
      refine zV_aload_n dX7_pay_24 rfl 0 rfl rfl ?_
      refine zV_iload_n dX7_pay_25 rfl 1 rfl rfl ?_
      refine zV_callV (E' := eX7_setOf (g_rmv 2)) (av := [.int (nI p)]) (st := [.int (nI s)]) (b := 76) dX7_pay_26 rfl (k_RX7_139 _) rfl ⟨by decide, by decide⟩ ⟨by decide, by decide⟩ (Or.inl rfl) rfl (Nat.le_of_ble_eq_true rfl) rfl rfl rfl (m_setOf (p := p) hM.1 hw.1 (by omega)) (fun r26 M26 z => ?_)
      obtain ⟨rfl, rfl⟩ := z
      show zV G (eX7_pay (g_rmv 6)) (0, 0) 29 [(0, .ref 76), (1, .int (nI p)), (2, .int (nI q)), (3, .int (nI s))] [.int (nI (ld_in S.1 p)), .int (nI s)] (mm I J t) _
      refine zV_iconst (v := (-1)) dX7_pay_29 rfl rfl ?_
      refine zA_ixor (z := ((nI (ld_in S.1 p)) ^^^ (-1))) dX7_pay_30 rfl  (rfl) ?_
      refine zA_iand (z := ((nI s) &&& ((nI (ld_in S.1 p)) ^^^ (-1)))) dX7_pay_31 rfl  (rfl) ?_
      refine zV_if_eq (tgt := 44) dX7_pay_32 rfl rfl  (fun h32 => ?_) (fun h32 => ?_)
      · refine zV_aload_n dX7_pay_44 rfl 0 rfl rfl ?_
        refine zV_iload_n dX7_pay_45 rfl 3 rfl rfl ?_
        refine zV_iload_n dX7_pay_46 rfl 2 rfl rfl ?_
        refine zV_callV (E' := eX7_paidAll (g_rmv 5)) (av := [.int (nI s), .int (nI q)]) (st := []) (b := 76) dX7_pay_47 rfl (k_RX7_163 _) rfl ⟨by decide, by decide⟩ ⟨by decide, by decide⟩ (Or.inl rfl) rfl (Nat.le_of_ble_eq_true rfl) rfl rfl rfl (m_paidAll (s := s) (to := q) hM.1 hw.1 (by omega) (by omega) (by omega)) (fun r47 M47 z => ?_)
        obtain ⟨I47, rfl, rfl, hR47, hF47⟩ := z
        have hW47 := wf_payA (s := s) (to := q) hw.1 (by omega) (by omega)
        show zV G (eX7_pay (g_rmv 6)) (0, 0) 50 [(0, .ref 76), (1, .int (nI p)), (2, .int (nI q)), (3, .int (nI s))] [.int (nI (ld_sum S.1 s))] (mm I47 J t) _
        exact zV_ireturn dX7_pay_50 rfl rfl (PM.land hM (by unfold op_pay; rw [if_pos h5, if_pos h13, tn_nI (show p < 2 ^ 31 by omega), if_pos h32, tn_nI (show s < 2 ^ 31 by omega), tn_nI (show q < 2 ^ 31 by omega)]) scM.rf hR47 hF47)
      · refine zV_aload_n dX7_pay_35 rfl 0 rfl rfl ?_
        refine zV_ldc (v := (-1000005)) dX7_pay_36 rfl tw1079 ?_
        refine zV_callV (E' := eX7_finding (g_rmv 0)) (av := [.int (-1000005)]) (st := []) (b := 76) dX7_pay_38 rfl (k_RX7_87 _) rfl ⟨by decide, by decide⟩ ⟨by decide, by decide⟩ (Or.inl rfl) rfl (Nat.le_of_ble_eq_true rfl) rfl rfl rfl (m_finding (w := 4) (by decide) (by decide)) (fun r38 M38 z => ?_)
        obtain ⟨rfl, rfl⟩ := z
        show zV G (eX7_pay (g_rmv 6)) (0, 0) 41 [(0, .ref 76), (1, .int (nI p)), (2, .int (nI q)), (3, .int (nI s))] [.int (fdg 4)] (mm (mTell I 4) J t) _
        refine zV_goto (tgt := 50) dX7_pay_41 rfl ?_
        exact zV_ireturn dX7_pay_50 rfl rfl (PM.tell hM (by decide) (by unfold op_pay; rw [if_pos h5, if_pos h13, tn_nI (show p < 2 ^ 31 by omega), if_neg h32]) scM.rf)
    · refine zV_aload_n dX7_pay_16 rfl 0 rfl rfl ?_
      refine zV_ldc (v := (-1000001)) dX7_pay_17 rfl tw970 ?_
      refine zV_callV (E' := eX7_finding (g_rmv 0)) (av := [.int (-1000001)]) (st := []) (b := 76) dX7_pay_19 rfl (k_RX7_87 _) rfl ⟨by decide, by decide⟩ ⟨by decide, by decide⟩ (Or.inl rfl) rfl (Nat.le_of_ble_eq_true rfl) rfl rfl rfl (m_finding (w := 0) (by decide) (by decide)) (fun r19 M19 z => ?_)
      obtain ⟨rfl, rfl⟩ := z
      show zV G (eX7_pay (g_rmv 6)) (0, 0) 22 [(0, .ref 76), (1, .int (nI p)), (2, .int (nI q)), (3, .int z)] [.int (fdg 0)] (mm (mTell I 0) J t) _
      exact zV_ireturn dX7_pay_22 rfl rfl (PM.tell hM (by decide) (by unfold op_pay; rw [if_pos h5, if_neg h13]) scM.rf)

theorem ld_sum_le {B : Nat} {σ : aL} (h : wfL B σ) (s : Nat) : ld_sum σ s ≤ 1000 := by
  have h1 : ld_sum σ s ≤ σ.1 * 100 := fb_sm_bound (fun c hc => by
    show (if s.testBit c then k_now (σ.2.1 c) else 0) ≤ 100
    split
    · exact k_wIf_le (h.2.1 c hc) _ _ _ _
    · omega)
  have h2 := h.1
  have h3 : σ.1 * 100 ≤ 10 * 100 := Nat.mul_le_mul_right _ h2
  omega
set_option maxRecDepth 100000 in
theorem q_there {G : mG} {I : Nat → Nat → Int32} {J : Nat → Nat → Int64} {t : Nat} {B : Nat} {S : aS} (hM : InvM I S) (hw : wfS B S) (hB : B + 4 < 1000000) {x y : Int32} : zC G yX7_there (eX7_there (g_rmv 6)) [.ref 76, .int x, .int y] (mm I J t) (fun r M => PM I (op_there S x y) r M) := by
  refine zC_of (by decide +kernel) rfl (by decide) (Nat.le_of_ble_eq_true rfl) ?_
  have n10 := hw.1.1
  show zV G (eX7_there (g_rmv 6)) (0, 0) 0 [(0, .ref 76), (1, .int x), (2, .int y)] [] (mm I J t) _
  refine zV_iload_n dX7_there_0 rfl 1 rfl rfl ?_
  refine zV_iload_n dX7_there_1 rfl 2 rfl rfl ?_
  refine zV_callS (E' := eX7_areTwo (g_rmv 2)) (av := [.int x, .int y]) (st := []) dX7_there_2 rfl (k_RX7_159 _) rfl ⟨by decide, by decide⟩ ⟨by decide, by decide⟩ (Or.inl rfl) rfl (Nat.le_of_ble_eq_true rfl) (m_two (x := x) (y := y)) (fun r2 M2 z => ?_)
  obtain ⟨rfl, rfl⟩ := z
  show zV G (eX7_there (g_rmv 6)) (0, 0) 5 [(0, .ref 76), (1, .int x), (2, .int y)] [.int (b2 (twoP x y))] (mm I J t) _
  refine zB_if_ne (tgt := 15) dX7_there_5 rfl rfl  (fun h5 => ?_) (fun h5 => ?_)
  · obtain ⟨p, q, hp, hq, hpq, rfl, rfl⟩ := z_two h5
    refine zV_aload_n dX7_there_15 rfl 0 rfl rfl ?_
    refine zV_iload_n dX7_there_16 rfl 1 rfl rfl ?_
    refine zV_callV (E' := eX7_setOf (g_rmv 2)) (av := [.int (nI p)]) (st := []) (b := 76) dX7_there_17 rfl (k_RX7_139 _) rfl ⟨by decide, by decide⟩ ⟨by decide, by decide⟩ (Or.inl rfl) rfl (Nat.le_of_ble_eq_true rfl) rfl rfl rfl (m_setOf (p := p) hM.1 hw.1 (by omega)) (fun r17 M17 z => ?_)
    obtain ⟨rfl, rfl⟩ := z
    show zV G (eX7_there (g_rmv 6)) (0, 0) 20 [(0, .ref 76), (1, .int (nI p)), (2, .int (nI q))] [.int (nI (ld_in S.1 p))] (mm I J t) _
    refine zV_istore_n (lv' := [(0, .ref 76), (1, .int (nI p)), (2, .int (nI q)), (3, .int (nI (ld_in S.1 p)))]) dX7_there_20 rfl rfl (by decide) rfl ?_
    refine zV_aload_n dX7_there_21 rfl 0 rfl rfl ?_
    refine zV_iload_n dX7_there_22 rfl 3 rfl rfl ?_
    refine zV_iload_n dX7_there_23 rfl 2 rfl rfl ?_
    refine zV_callV (E' := eX7_paidAll (g_rmv 5)) (av := [.int (nI (ld_in S.1 p)), .int (nI q)]) (st := []) (b := 76) dX7_there_24 rfl (k_RX7_163 _) rfl ⟨by decide, by decide⟩ ⟨by decide, by decide⟩ (Or.inl rfl) rfl (Nat.le_of_ble_eq_true rfl) rfl rfl rfl (m_paidAll (s := (ld_in S.1 p)) (to := q) hM.1 hw.1 (Nat.lt_trans (ld_in_lt n10 _) (by decide)) (by omega) (by omega)) (fun r24 M24 z => ?_)
    obtain ⟨I24, rfl, rfl, hR24, hF24⟩ := z
    have hW24 := wf_payA (s := (ld_in S.1 p)) (to := q) hw.1 (by omega) (by omega)
    show zV G (eX7_there (g_rmv 6)) (0, 0) 27 [(0, .ref 76), (1, .int (nI p)), (2, .int (nI q)), (3, .int (nI (ld_in S.1 p)))] [.int (nI (ld_sum S.1 (ld_in S.1 p)))] (mm I24 J t) _
    refine zV_istore (lv' := [(0, .ref 76), (1, .int (nI p)), (2, .int (nI q)), (3, .int (nI (ld_in S.1 p))), (4, .int (nI (ld_sum S.1 (ld_in S.1 p))))]) dX7_there_27 rfl (by decide) rfl ?_
    refine zV_aload_n dX7_there_29 rfl 0 rfl rfl ?_
    refine zV_iload_n dX7_there_30 rfl 3 rfl rfl ?_
    refine zV_iload_n dX7_there_31 rfl 1 rfl rfl ?_
    refine zV_callV (E' := eX7_paidAll (g_rmv 5)) (av := [.int (nI (ld_in S.1 p)), .int (nI p)]) (st := []) (b := 76) dX7_there_32 rfl (k_RX7_163 _) rfl ⟨by decide, by decide⟩ ⟨by decide, by decide⟩ (Or.inl rfl) rfl (Nat.le_of_ble_eq_true rfl) rfl rfl rfl (m_paidAll (s := (ld_in S.1 p)) (to := p) hR24 hW24 (Nat.lt_trans (ld_in_lt n10 _) (by decide)) (by omega) (by omega)) (fun r32 M32 z => ?_)
    obtain ⟨I32, rfl, rfl, hR32, hF32⟩ := z
    have hW32 := wf_payA (s := (ld_in S.1 p)) (to := p) hW24 (by omega) (by omega)
    show zV G (eX7_there (g_rmv 6)) (0, 0) 35 [(0, .ref 76), (1, .int (nI p)), (2, .int (nI q)), (3, .int (nI (ld_in S.1 p))), (4, .int (nI (ld_sum S.1 (ld_in S.1 p))))] [.int (nI (ld_sum (ld_payA S.1 (ld_in S.1 p) q) (ld_in S.1 p)))] (mm I32 J t) _
    refine zV_istore (lv' := [(0, .ref 76), (1, .int (nI p)), (2, .int (nI q)), (3, .int (nI (ld_in S.1 p))), (4, .int (nI (ld_sum S.1 (ld_in S.1 p)))), (5, .int (nI (ld_sum (ld_payA S.1 (ld_in S.1 p) q) (ld_in S.1 p))))]) dX7_there_35 rfl (by decide) rfl ?_
    refine zV_iload dX7_there_37 rfl 5 rfl ?_
    refine zN_if_ge (tgt := 47) dX7_there_39 rfl (by have h9 := ld_sum_le hW24 (ld_in S.1 p); omega) rfl ?_
    refine zV_aload_n dX7_there_47 rfl 0 rfl rfl ?_
    refine zV_iload_n dX7_there_48 rfl 3 rfl rfl ?_
    refine zV_callV (E' := eX7_sumOf (g_rmv 4)) (av := [.int (nI (ld_in S.1 p))]) (st := []) (b := 76) dX7_there_49 rfl (k_RX7_142 _) rfl ⟨by decide, by decide⟩ ⟨by decide, by decide⟩ (Or.inl rfl) rfl (Nat.le_of_ble_eq_true rfl) rfl rfl rfl (m_sumOf (s := (ld_in S.1 p)) hR32 hW32 (Nat.lt_trans (ld_in_lt n10 _) (by decide))) (fun r49 M49 z => ?_)
    obtain ⟨rfl, rfl⟩ := z
    show zV G (eX7_there (g_rmv 6)) (0, 0) 52 [(0, .ref 76), (1, .int (nI p)), (2, .int (nI q)), (3, .int (nI (ld_in S.1 p))), (4, .int (nI (ld_sum S.1 (ld_in S.1 p)))), (5, .int (nI (ld_sum (ld_payA S.1 (ld_in S.1 p) q) (ld_in S.1 p))))] [.int (nI (ld_sum (ld_payA (ld_payA S.1 (ld_in S.1 p) q) (ld_in S.1 p) p) (ld_in S.1 p)))] (mm I32 J t) _
    refine zV_iload dX7_there_52 rfl 4 rfl ?_
    refine zA_isub (z := ((nI (ld_sum (ld_payA (ld_payA S.1 (ld_in S.1 p) q) (ld_in S.1 p) p) (ld_in S.1 p))) - (nI (ld_sum S.1 (ld_in S.1 p))))) dX7_there_54 rfl  (rfl) ?_
    exact zV_ireturn dX7_there_55 rfl rfl (PM.land hM (by unfold op_there; rw [if_pos h5, tn_nI (show p < 2 ^ 31 by omega), tn_nI (show q < 2 ^ 31 by omega)]; rfl) scM.rf hR32 (hF24.tr hF32))
  · refine zV_aload_n dX7_there_8 rfl 0 rfl rfl ?_
    refine zV_ldc (v := (-1000001)) dX7_there_9 rfl tw970 ?_
    refine zV_callV (E' := eX7_finding (g_rmv 0)) (av := [.int (-1000001)]) (st := []) (b := 76) dX7_there_11 rfl (k_RX7_87 _) rfl ⟨by decide, by decide⟩ ⟨by decide, by decide⟩ (Or.inl rfl) rfl (Nat.le_of_ble_eq_true rfl) rfl rfl rfl (m_finding (w := 0) (by decide) (by decide)) (fun r11 M11 z => ?_)
    obtain ⟨rfl, rfl⟩ := z
    show zV G (eX7_there (g_rmv 6)) (0, 0) 14 [(0, .ref 76), (1, .int x), (2, .int y)] [.int (fdg 0)] (mm (mTell I 0) J t) _
    exact zV_ireturn dX7_there_14 rfl rfl (PM.tell hM (by decide) (by unfold op_there; rw [if_neg h5]) scM.rf)
