/-! changes: findChange of the reference -/
theorem z_cut {G : mG} {E : mE} {cn : Nat × Nat} {pc pc' : Nat} {lv lv' : List (Nat × Value)} {st st' : List Value} {M M' : mM} {Q : Option Value → mM → Prop} (h : zV G E cn pc' lv' st' M' Q) (k : zV G E cn pc' lv' st' M' Q → zV G E cn pc lv st M Q) : zV G E cn pc lv st M Q := k h
def bgl (I : Nat → Nat → Int32) (σ : aL) (p q : Nat) (o : Option Nat) : Prop := match o with
  | none => I 76 6 = nI 0 ∧ I 76 7 = nI 0
  | some b => I 76 6 = nI (gv σ p b) ∧ I 76 7 = nI (gv σ q b)
def mst (σ : aL) (p q : Nat) (o : Option Nat) : Nat := match o with
  | none => 0
  | some b => gnN σ p q b
theorem fb_sm_z : ∀ {f : Nat → Nat} (n : Nat), (∀ c, f c = 0) → fb_sm f n = 0
  | _, 0, _ => rfl
  | f, n + 1, h => by rw [fb_sm_succ, fb_sm_z n h, h n]
theorem gnN_0 (σ : aL) (p q : Nat) : gnN σ p q 0 = 0 := by
  have e1 : ∀ r, gv σ r 0 = 0 := fun r => by unfold gv; exact Nat.zero_and _
  have e2 : ld_sum σ 0 = 0 := fb_sm_z _ (fun c => by rw [Nat.zero_testBit]; rfl)
  have e3 : ∀ r, ld_sumP σ 0 r = 0 := fun r => fb_sm_z _ (fun c => by rw [Nat.zero_testBit]; rfl)
  unfold gnN
  rw [e1, e1, e2, e3, e3]
  rfl
theorem chg_1 (σ : aL) (p q : Nat) : fo (bst (rnc σ p q) (fun t => chP σ p q t)) none (ld_u σ p q) 1 = none := by
  show (if isSub (ld_u σ p q) 0 = true then bst (rnc σ p q) (fun t => chP σ p q t) none 0 else none) = none
  split
  · refine if_neg (fun z => ?_)
    have h := z.2
    rw [gnN_0] at h
    exact Nat.lt_irrefl _ h
  · rfl
theorem bst_keep {r : Nat → Nat} {P : Nat → Prop} [DecidablePred P] {b t : Nat} (h : ¬ r t < r b) : bst r P (some b) t = some b := by
  unfold bst
  split
  · exact if_neg h
  · rfl
theorem tot_0 {B : Nat} {σ : aL} (h : wfL B σ) {p q t : Nat} : tot σ p q t = nI 0 ↔ ld_sum σ (gv σ p t) = ld_sum σ (gv σ q t) := by
  have h1 := ld_sum_le h (gv σ p t)
  have h2 := ld_sum_le h (gv σ q t)
  have h1' : ld_sum σ (t &&& ld_in σ p) ≤ 1000 := h1
  have h2' : ld_sum σ (t &&& ld_in σ q) ≤ 1000 := h2
  have e : (tot σ p q t).toInt = (ld_sum σ (gv σ p t) : Int) - ld_sum σ (gv σ q t) := pk_sub_toInt (by omega) (by omega)
  rw [← Int32.toInt_inj, e, show (nI 0).toInt = 0 from rfl]
  omega
theorem mg_0 {B : Nat} {σ : aL} (h : wfL B σ) {p q t : Nat} (hc : nI (ld_sumP σ (gv σ q t) p) - nI (ld_sum σ (gv σ p t)) < 0 ∨ nI (ld_sumP σ (gv σ p t) q) - nI (ld_sum σ (gv σ q t)) < 0) : gnN σ p q t = 0 := by
  refine if_pos ?_
  have h1 := ld_sum_le h (gv σ p t)
  have h2 := ld_sumP_le h (gv σ q t) p
  have h3 := ld_sum_le h (gv σ q t)
  have h4 := ld_sumP_le h (gv σ p t) q
  rw [Int32.lt_iff_toInt_lt, Int32.lt_iff_toInt_lt, pk_sub_toInt (by omega) (by omega), pk_sub_toInt (by omega) (by omega), show (0 : Int32).toInt = 0 from rfl] at hc
  omega
theorem mg_v {B : Nat} {σ : aL} (h : wfL B σ) {p q t : Nat} (c1 : ¬ nI (ld_sumP σ (gv σ q t) p) - nI (ld_sum σ (gv σ p t)) < 0) (c2 : ¬ nI (ld_sumP σ (gv σ p t) q) - nI (ld_sum σ (gv σ q t)) < 0) : (nI (ld_sumP σ (gv σ q t) p) - nI (ld_sum σ (gv σ p t))) + (nI (ld_sumP σ (gv σ p t) q) - nI (ld_sum σ (gv σ q t))) = nI (gnN σ p q t) := by
  have h1 := ld_sum_le h (gv σ p t)
  have h2 := ld_sumP_le h (gv σ q t) p
  have h3 := ld_sum_le h (gv σ q t)
  have h4 := ld_sumP_le h (gv σ p t) q
  rw [Int32.lt_iff_toInt_lt, pk_sub_toInt (by omega) (by omega), show (0 : Int32).toInt = 0 from rfl] at c1 c2
  rw [pk_sub (by omega), pk_sub (by omega), nI_add]
  exact congrArg nI (if_neg (by omega)).symm
set_option maxRecDepth 100000 in
theorem m_findChange {G : mG} {I : Nat → Nat → Int32} {J : Nat → Nat → Int64} {t : Nat} {B : Nat} {σ : aL} (hR : absR I 77 σ) (hW : wfL B σ) {p q : Nat} (hp : p < 4) (hq : q < 4) (hpq : p ≠ q) : zC G yX7_findChange (eX7_findChange (g_rmv 5)) [.ref 76, .int (nI p), .int (nI q)] (mm I J t) (fun r M => ∃ I', r = some (.int (nI (mst σ p q (ld_chg σ p q)))) ∧ M = mm I' J t ∧ fr3 I I' ∧ bgl I' σ p q (ld_chg σ p q)) := by
  refine zC_of (by decide +kernel) rfl (by decide) (Nat.le_of_ble_eq_true rfl) ?_
  have n10 := hW.1
  show zV G (eX7_findChange (g_rmv 5)) (0, 0) 0 [(0, .ref 76), (1, .int (nI p)), (2, .int (nI q))] [] (mm I J t) _
  refine zV_aload_n dX7_findChange_0 rfl 0 rfl rfl ?_
  refine zV_iconst (v := (nI 0)) dX7_findChange_1 rfl rfl ?_
  refine zV_puti 6 dX7_findChange_2 rfl fl_RX7_179 rfl (by decide) rfl rfl rfl ?_
  refine zV_aload_n dX7_findChange_5 rfl 0 rfl rfl ?_
  refine zV_iconst (v := (nI 0)) dX7_findChange_6 rfl rfl ?_
  refine zV_puti 7 dX7_findChange_7 rfl fl_RX7_189 rfl (by decide) rfl rfl rfl ?_
  refine zV_iconst (v := (nI 0)) dX7_findChange_10 rfl rfl ?_
  refine zV_istore_n (lv' := [(0, .ref 76), (1, .int (nI p)), (2, .int (nI q)), (3, .int (nI 0))]) dX7_findChange_11 rfl rfl (by decide) rfl ?_
  refine zV_aload_n dX7_findChange_12 rfl 0 rfl rfl ?_
  refine zV_iload_n dX7_findChange_13 rfl 1 rfl rfl ?_
  refine zV_callV (E' := eX7_setOf (g_rmv 2)) (av := [.int (nI p)]) (st := []) (b := 76) dX7_findChange_14 rfl (k_RX7_139 _) rfl ⟨by decide, by decide⟩ ⟨by decide, by decide⟩ (Or.inl rfl) rfl (Nat.le_of_ble_eq_true rfl) rfl rfl rfl (m_setOf (p := p) (hR.mv (show (up2 (up2 I 76 6 (nI 0)) 76 7 (nI 0)) 77 = I 77 from by funext k; rw [up2_ni (by decide), up2_ni (by decide)])) hW (by omega)) (fun r14 M14 z => ?_)
  obtain ⟨rfl, rfl⟩ := z
  show zV G (eX7_findChange (g_rmv 5)) (0, 0) 17 [(0, .ref 76), (1, .int (nI p)), (2, .int (nI q)), (3, .int (nI 0))] [.int (nI (ld_in σ p))] (mm (up2 (up2 I 76 6 (nI 0)) 76 7 (nI 0)) J t) _
  refine zV_istore (lv' := [(0, .ref 76), (1, .int (nI p)), (2, .int (nI q)), (3, .int (nI 0)), (4, .int (nI (ld_in σ p)))]) dX7_findChange_17 rfl (by decide) rfl ?_
  refine zV_aload_n dX7_findChange_19 rfl 0 rfl rfl ?_
  refine zV_iload_n dX7_findChange_20 rfl 2 rfl rfl ?_
  refine zV_callV (E' := eX7_setOf (g_rmv 2)) (av := [.int (nI q)]) (st := []) (b := 76) dX7_findChange_21 rfl (k_RX7_139 _) rfl ⟨by decide, by decide⟩ ⟨by decide, by decide⟩ (Or.inl rfl) rfl (Nat.le_of_ble_eq_true rfl) rfl rfl rfl (m_setOf (p := q) (hR.mv (show (up2 (up2 I 76 6 (nI 0)) 76 7 (nI 0)) 77 = I 77 from by funext k; rw [up2_ni (by decide), up2_ni (by decide)])) hW (by omega)) (fun r21 M21 z => ?_)
  obtain ⟨rfl, rfl⟩ := z
  show zV G (eX7_findChange (g_rmv 5)) (0, 0) 24 [(0, .ref 76), (1, .int (nI p)), (2, .int (nI q)), (3, .int (nI 0)), (4, .int (nI (ld_in σ p)))] [.int (nI (ld_in σ q))] (mm (up2 (up2 I 76 6 (nI 0)) 76 7 (nI 0)) J t) _
  refine zV_istore (lv' := [(0, .ref 76), (1, .int (nI p)), (2, .int (nI q)), (3, .int (nI 0)), (4, .int (nI (ld_in σ p))), (5, .int (nI (ld_in σ q)))]) dX7_findChange_24 rfl (by decide) rfl ?_
  refine zV_iconst (v := (nI 1)) dX7_findChange_26 rfl rfl ?_
  refine zV_istore (lv' := [(0, .ref 76), (1, .int (nI p)), (2, .int (nI q)), (3, .int (nI 0)), (4, .int (nI (ld_in σ p))), (5, .int (nI (ld_in σ q))), (6, .int (nI 1))]) dX7_findChange_27 rfl (by decide) rfl ?_
  have hu1024 := ld_u_lt n10 p q
  have hgo : ∀ c, c ≤ (ld_u σ p q) + 1 → ∀ (I1 : Nat → Nat → Int32), (fr3 I I1 ∧ bgl I1 σ p q (fo (bst (rnc σ p q) (fun t => chP σ p q t)) none (ld_u σ p q) c)) → zV G (eX7_findChange (g_rmv 5)) (0, 0) 29 [(0, .ref 76), (1, .int (nI p)), (2, .int (nI q)), (3, .int (nI (mst σ p q (fo (bst (rnc σ p q) (fun t => chP σ p q t)) none (ld_u σ p q) c)))), (4, .int (nI (ld_in σ p))), (5, .int (nI (ld_in σ q))), (6, .int (nI c))] [] (mm I1 J t) (fun r M => ∃ I', r = some (.int (nI (mst σ p q (ld_chg σ p q)))) ∧ M = mm I' J t ∧ fr3 I I' ∧ bgl I' σ p q (ld_chg σ p q)) := by
    refine z_for _ ((ld_u σ p q) + 1) ?_ ?_
    · intro I1 h1
      refine zV_iload dX7_findChange_29 rfl 6 rfl ?_
      refine zV_iload dX7_findChange_31 rfl 4 rfl ?_
      refine zV_iload dX7_findChange_33 rfl 5 rfl ?_
      refine zA_ior (z := (nI (ld_u σ p q))) dX7_findChange_35 rfl  (fa_or _ _) ?_
      refine zN_icmp_gt (tgt := 208) dX7_findChange_36 rfl rfl (by omega) (by omega) (fun _ => ?_) (fun z => absurd z (by omega))
      refine zV_iload_n dX7_findChange_208 rfl 3 rfl rfl ?_
      exact zV_ireturn dX7_findChange_209 rfl rfl (⟨_, rfl, rfl, h1.1, h1.2⟩)
    · intro c hc ih I1 h1
      have g1 := gv_lt n10 p c
      have g2 := gv_lt n10 q c
      have g3 : gv σ p c ||| gv σ q c < 1024 := Nat.or_lt_two_pow (n := 10) g1 g2
      have gs1 := ld_sum_le hW (gv σ p c)
      have gs2 := ld_sum_le hW (gv σ q c)
      have gn1 := gnN_le hW p q c
      refine zV_iload dX7_findChange_29 rfl 6 rfl ?_
      refine zV_iload dX7_findChange_31 rfl 4 rfl ?_
      refine zV_iload dX7_findChange_33 rfl 5 rfl ?_
      refine zA_ior (z := (nI (ld_u σ p q))) dX7_findChange_35 rfl  (fa_or _ _) ?_
      refine zN_icmp_gt (tgt := 208) dX7_findChange_36 rfl rfl (by omega) (by omega) (fun z => absurd z (by omega)) (fun _ => ?_)
      refine zV_iload dX7_findChange_39 rfl 6 rfl ?_
      refine zV_iload dX7_findChange_41 rfl 4 rfl ?_
      refine zA_iand (z := (nI (gv σ p c))) dX7_findChange_43 rfl  (fa_and _ _) ?_
      refine zV_istore (lv' := [(0, .ref 76), (1, .int (nI p)), (2, .int (nI q)), (3, .int (nI (mst σ p q (fo (bst (rnc σ p q) (fun t => chP σ p q t)) none (ld_u σ p q) c)))), (4, .int (nI (ld_in σ p))), (5, .int (nI (ld_in σ q))), (6, .int (nI c)), (7, .int (nI (gv σ p c)))]) dX7_findChange_44 rfl (by decide) rfl ?_
      refine zV_iload dX7_findChange_46 rfl 6 rfl ?_
      refine zV_iload dX7_findChange_48 rfl 5 rfl ?_
      refine zA_iand (z := (nI (gv σ q c))) dX7_findChange_50 rfl  (fa_and _ _) ?_
      refine zV_istore (lv' := [(0, .ref 76), (1, .int (nI p)), (2, .int (nI q)), (3, .int (nI (mst σ p q (fo (bst (rnc σ p q) (fun t => chP σ p q t)) none (ld_u σ p q) c)))), (4, .int (nI (ld_in σ p))), (5, .int (nI (ld_in σ q))), (6, .int (nI c)), (7, .int (nI (gv σ p c))), (8, .int (nI (gv σ q c)))]) dX7_findChange_51 rfl (by decide) rfl ?_
      refine zV_iload dX7_findChange_53 rfl 7 rfl ?_
      refine zV_iload dX7_findChange_55 rfl 8 rfl ?_
      refine zA_ior (z := (nI (gv σ p c ||| gv σ q c))) dX7_findChange_57 rfl  (fa_or _ _) ?_
      refine zV_iload dX7_findChange_58 rfl 6 rfl ?_
      refine zN_icmp_ne (tgt := 202) dX7_findChange_60 rfl rfl (by omega) (by omega) (fun h60 => ?_) (fun h60 => ?_)
      · have hnb : ¬ isSub (ld_u σ p q) c = true := fun z => h60 (gv_sub.mpr z)
        refine zV_iinc (y := (nI (c + 1))) (lv' := [(0, .ref 76), (1, .int (nI p)), (2, .int (nI q)), (3, .int (nI (mst σ p q (fo (bst (rnc σ p q) (fun t => chP σ p q t)) none (ld_u σ p q) c)))), (4, .int (nI (ld_in σ p))), (5, .int (nI (ld_in σ q))), (6, .int (nI (c + 1))), (7, .int (nI (gv σ p c))), (8, .int (nI (gv σ q c)))]) dX7_findChange_202 rfl 6 rfl (nI_1 _) (by decide) rfl ?_
        refine zV_goto (tgt := 29) dX7_findChange_205 rfl ?_
        refine zV_keep (lv' := [(0, .ref 76), (1, .int (nI p)), (2, .int (nI q)), (3, .int (nI (mst σ p q (fo (bst (rnc σ p q) (fun t => chP σ p q t)) none (ld_u σ p q) c)))), (4, .int (nI (ld_in σ p))), (5, .int (nI (ld_in σ q))), (6, .int (nI (c + 1)))]) [0, 1, 2, 3, 4, 5, 6] rfl ?_
        have hst := show (fo (bst (rnc σ p q) (fun t => chP σ p q t)) none (ld_u σ p q) (c + 1)) = (fo (bst (rnc σ p q) (fun t => chP σ p q t)) none (ld_u σ p q) c) from if_neg hnb
        have ih2 := ih I1 ⟨h1.1, by rw [hst]; exact h1.2⟩
        rw [hst] at ih2
        exact ih2
      · have hsb := gv_sub.mp h60
        refine zV_aload_n dX7_findChange_63 rfl 0 rfl rfl ?_
        refine zV_iload dX7_findChange_64 rfl 7 rfl ?_
        refine zV_callV (E' := eX7_sumOf (g_rmv 4)) (av := [.int (nI (gv σ p c))]) (st := []) (b := 76) dX7_findChange_66 rfl (k_RX7_142 _) rfl ⟨by decide, by decide⟩ ⟨by decide, by decide⟩ (Or.inl rfl) rfl (Nat.le_of_ble_eq_true rfl) rfl rfl rfl (m_sumOf (s := (gv σ p c)) (hR.mv (h1.1.1 77 (by decide))) hW (by omega)) (fun r66 M66 z => ?_)
        obtain ⟨rfl, rfl⟩ := z
        show zV G (eX7_findChange (g_rmv 5)) (0, 0) 69 [(0, .ref 76), (1, .int (nI p)), (2, .int (nI q)), (3, .int (nI (mst σ p q (fo (bst (rnc σ p q) (fun t => chP σ p q t)) none (ld_u σ p q) c)))), (4, .int (nI (ld_in σ p))), (5, .int (nI (ld_in σ q))), (6, .int (nI c)), (7, .int (nI (gv σ p c))), (8, .int (nI (gv σ q c)))] [.int (nI (ld_sum σ (gv σ p c)))] (mm I1 J t) _
        refine zV_aload_n dX7_findChange_69 rfl 0 rfl rfl ?_
        refine zV_iload dX7_findChange_70 rfl 8 rfl ?_
        refine zV_callV (E' := eX7_sumOf (g_rmv 4)) (av := [.int (nI (gv σ q c))]) (st := [.int (nI (ld_sum σ (gv σ p c)))]) (b := 76) dX7_findChange_72 rfl (k_RX7_142 _) rfl ⟨by decide, by decide⟩ ⟨by decide, by decide⟩ (Or.inl rfl) rfl (Nat.le_of_ble_eq_true rfl) rfl rfl rfl (m_sumOf (s := (gv σ q c)) (hR.mv (h1.1.1 77 (by decide))) hW (by omega)) (fun r72 M72 z => ?_)
        obtain ⟨rfl, rfl⟩ := z
        show zV G (eX7_findChange (g_rmv 5)) (0, 0) 75 [(0, .ref 76), (1, .int (nI p)), (2, .int (nI q)), (3, .int (nI (mst σ p q (fo (bst (rnc σ p q) (fun t => chP σ p q t)) none (ld_u σ p q) c)))), (4, .int (nI (ld_in σ p))), (5, .int (nI (ld_in σ q))), (6, .int (nI c)), (7, .int (nI (gv σ p c))), (8, .int (nI (gv σ q c)))] [.int (nI (ld_sum σ (gv σ q c))), .int (nI (ld_sum σ (gv σ p c)))] (mm I1 J t) _
        refine zN_icmp_ne (tgt := 202) dX7_findChange_75 rfl rfl (by omega) (by omega) (fun h75 => ?_) (fun h75 => ?_)
        · skip
          refine zV_iinc (y := (nI (c + 1))) (lv' := [(0, .ref 76), (1, .int (nI p)), (2, .int (nI q)), (3, .int (nI (mst σ p q (fo (bst (rnc σ p q) (fun t => chP σ p q t)) none (ld_u σ p q) c)))), (4, .int (nI (ld_in σ p))), (5, .int (nI (ld_in σ q))), (6, .int (nI (c + 1))), (7, .int (nI (gv σ p c))), (8, .int (nI (gv σ q c)))]) dX7_findChange_202 rfl 6 rfl (nI_1 _) (by decide) rfl ?_
          refine zV_goto (tgt := 29) dX7_findChange_205 rfl ?_
          refine zV_keep (lv' := [(0, .ref 76), (1, .int (nI p)), (2, .int (nI q)), (3, .int (nI (mst σ p q (fo (bst (rnc σ p q) (fun t => chP σ p q t)) none (ld_u σ p q) c)))), (4, .int (nI (ld_in σ p))), (5, .int (nI (ld_in σ q))), (6, .int (nI (c + 1)))]) [0, 1, 2, 3, 4, 5, 6] rfl ?_
          have hst := show (fo (bst (rnc σ p q) (fun t => chP σ p q t)) none (ld_u σ p q) (c + 1)) = (fo (bst (rnc σ p q) (fun t => chP σ p q t)) none (ld_u σ p q) c) from (if_pos hsb).trans (if_neg (fun z => h75 ((tot_0 hW).mp z.1)))
          have ih2 := ih I1 ⟨h1.1, by rw [hst]; exact h1.2⟩
          rw [hst] at ih2
          exact ih2
        · skip
          refine zV_aload_n dX7_findChange_78 rfl 0 rfl rfl ?_
          refine zV_iload dX7_findChange_79 rfl 8 rfl ?_
          refine zV_iload_n dX7_findChange_81 rfl 1 rfl rfl ?_
          refine zV_callV (E' := eX7_sumPaid (g_rmv 4)) (av := [.int (nI (gv σ q c)), .int (nI p)]) (st := []) (b := 76) dX7_findChange_82 rfl (k_RX7_149 _) rfl ⟨by decide, by decide⟩ ⟨by decide, by decide⟩ (Or.inl rfl) rfl (Nat.le_of_ble_eq_true rfl) rfl rfl rfl (m_sumPaid (s := (gv σ q c)) (p := p) (hR.mv (h1.1.1 77 (by decide))) hW (by omega) (by omega)) (fun r82 M82 z => ?_)
          obtain ⟨rfl, rfl⟩ := z
          show zV G (eX7_findChange (g_rmv 5)) (0, 0) 85 [(0, .ref 76), (1, .int (nI p)), (2, .int (nI q)), (3, .int (nI (mst σ p q (fo (bst (rnc σ p q) (fun t => chP σ p q t)) none (ld_u σ p q) c)))), (4, .int (nI (ld_in σ p))), (5, .int (nI (ld_in σ q))), (6, .int (nI c)), (7, .int (nI (gv σ p c))), (8, .int (nI (gv σ q c)))] [.int (nI (ld_sumP σ (gv σ q c) p))] (mm I1 J t) _
          refine zV_aload_n dX7_findChange_85 rfl 0 rfl rfl ?_
          refine zV_iload dX7_findChange_86 rfl 7 rfl ?_
          refine zV_callV (E' := eX7_sumOf (g_rmv 4)) (av := [.int (nI (gv σ p c))]) (st := [.int (nI (ld_sumP σ (gv σ q c) p))]) (b := 76) dX7_findChange_88 rfl (k_RX7_142 _) rfl ⟨by decide, by decide⟩ ⟨by decide, by decide⟩ (Or.inl rfl) rfl (Nat.le_of_ble_eq_true rfl) rfl rfl rfl (m_sumOf (s := (gv σ p c)) (hR.mv (h1.1.1 77 (by decide))) hW (by omega)) (fun r88 M88 z => ?_)
          obtain ⟨rfl, rfl⟩ := z
          show zV G (eX7_findChange (g_rmv 5)) (0, 0) 91 [(0, .ref 76), (1, .int (nI p)), (2, .int (nI q)), (3, .int (nI (mst σ p q (fo (bst (rnc σ p q) (fun t => chP σ p q t)) none (ld_u σ p q) c)))), (4, .int (nI (ld_in σ p))), (5, .int (nI (ld_in σ q))), (6, .int (nI c)), (7, .int (nI (gv σ p c))), (8, .int (nI (gv σ q c)))] [.int (nI (ld_sum σ (gv σ p c))), .int (nI (ld_sumP σ (gv σ q c) p))] (mm I1 J t) _
          refine zA_isub (z := ((nI (ld_sumP σ (gv σ q c) p)) - (nI (ld_sum σ (gv σ p c))))) dX7_findChange_91 rfl  (rfl) ?_
          refine zV_istore (lv' := [(0, .ref 76), (1, .int (nI p)), (2, .int (nI q)), (3, .int (nI (mst σ p q (fo (bst (rnc σ p q) (fun t => chP σ p q t)) none (ld_u σ p q) c)))), (4, .int (nI (ld_in σ p))), (5, .int (nI (ld_in σ q))), (6, .int (nI c)), (7, .int (nI (gv σ p c))), (8, .int (nI (gv σ q c))), (9, .int ((nI (ld_sumP σ (gv σ q c) p)) - (nI (ld_sum σ (gv σ p c)))))]) dX7_findChange_92 rfl (by decide) rfl ?_
          refine zV_aload_n dX7_findChange_94 rfl 0 rfl rfl ?_
          refine zV_iload dX7_findChange_95 rfl 7 rfl ?_
          refine zV_iload_n dX7_findChange_97 rfl 2 rfl rfl ?_
          refine zV_callV (E' := eX7_sumPaid (g_rmv 4)) (av := [.int (nI (gv σ p c)), .int (nI q)]) (st := []) (b := 76) dX7_findChange_98 rfl (k_RX7_149 _) rfl ⟨by decide, by decide⟩ ⟨by decide, by decide⟩ (Or.inl rfl) rfl (Nat.le_of_ble_eq_true rfl) rfl rfl rfl (m_sumPaid (s := (gv σ p c)) (p := q) (hR.mv (h1.1.1 77 (by decide))) hW (by omega) (by omega)) (fun r98 M98 z => ?_)
          obtain ⟨rfl, rfl⟩ := z
          show zV G (eX7_findChange (g_rmv 5)) (0, 0) 101 [(0, .ref 76), (1, .int (nI p)), (2, .int (nI q)), (3, .int (nI (mst σ p q (fo (bst (rnc σ p q) (fun t => chP σ p q t)) none (ld_u σ p q) c)))), (4, .int (nI (ld_in σ p))), (5, .int (nI (ld_in σ q))), (6, .int (nI c)), (7, .int (nI (gv σ p c))), (8, .int (nI (gv σ q c))), (9, .int ((nI (ld_sumP σ (gv σ q c) p)) - (nI (ld_sum σ (gv σ p c)))))] [.int (nI (ld_sumP σ (gv σ p c) q))] (mm I1 J t) _
          refine zV_aload_n dX7_findChange_101 rfl 0 rfl rfl ?_
          refine zV_iload dX7_findChange_102 rfl 8 rfl ?_
          refine zV_callV (E' := eX7_sumOf (g_rmv 4)) (av := [.int (nI (gv σ q c))]) (st := [.int (nI (ld_sumP σ (gv σ p c) q))]) (b := 76) dX7_findChange_104 rfl (k_RX7_142 _) rfl ⟨by decide, by decide⟩ ⟨by decide, by decide⟩ (Or.inl rfl) rfl (Nat.le_of_ble_eq_true rfl) rfl rfl rfl (m_sumOf (s := (gv σ q c)) (hR.mv (h1.1.1 77 (by decide))) hW (by omega)) (fun r104 M104 z => ?_)
          obtain ⟨rfl, rfl⟩ := z
          show zV G (eX7_findChange (g_rmv 5)) (0, 0) 107 [(0, .ref 76), (1, .int (nI p)), (2, .int (nI q)), (3, .int (nI (mst σ p q (fo (bst (rnc σ p q) (fun t => chP σ p q t)) none (ld_u σ p q) c)))), (4, .int (nI (ld_in σ p))), (5, .int (nI (ld_in σ q))), (6, .int (nI c)), (7, .int (nI (gv σ p c))), (8, .int (nI (gv σ q c))), (9, .int ((nI (ld_sumP σ (gv σ q c) p)) - (nI (ld_sum σ (gv σ p c)))))] [.int (nI (ld_sum σ (gv σ q c))), .int (nI (ld_sumP σ (gv σ p c) q))] (mm I1 J t) _
          refine zA_isub (z := ((nI (ld_sumP σ (gv σ p c) q)) - (nI (ld_sum σ (gv σ q c))))) dX7_findChange_107 rfl  (rfl) ?_
          refine zV_istore (lv' := [(0, .ref 76), (1, .int (nI p)), (2, .int (nI q)), (3, .int (nI (mst σ p q (fo (bst (rnc σ p q) (fun t => chP σ p q t)) none (ld_u σ p q) c)))), (4, .int (nI (ld_in σ p))), (5, .int (nI (ld_in σ q))), (6, .int (nI c)), (7, .int (nI (gv σ p c))), (8, .int (nI (gv σ q c))), (9, .int ((nI (ld_sumP σ (gv σ q c) p)) - (nI (ld_sum σ (gv σ p c))))), (10, .int ((nI (ld_sumP σ (gv σ p c) q)) - (nI (ld_sum σ (gv σ q c)))))]) dX7_findChange_108 rfl (by decide) rfl ?_
          refine z_cut (pc' := 129) (lv' := [(0, .ref 76), (1, .int (nI p)), (2, .int (nI q)), (3, .int (nI (mst σ p q (fo (bst (rnc σ p q) (fun t => chP σ p q t)) none (ld_u σ p q) c)))), (4, .int (nI (ld_in σ p))), (5, .int (nI (ld_in σ q))), (6, .int (nI c)), (7, .int (nI (gv σ p c))), (8, .int (nI (gv σ q c))), (9, .int ((nI (ld_sumP σ (gv σ q c) p)) - (nI (ld_sum σ (gv σ p c))))), (10, .int ((nI (ld_sumP σ (gv σ p c) q)) - (nI (ld_sum σ (gv σ q c)))))]) (st' := [.int (nI (gnN σ p q c))]) (M' := (mm I1 J t)) ?_ (fun k129 => ?_)
          · have hfl := h1.2
            cases eo : (fo (bst (rnc σ p q) (fun t => chP σ p q t)) none (ld_u σ p q) c) with
            | none =>
              rw [eo] at hfl
              show zV G (eX7_findChange (g_rmv 5)) (0, 0) 129 [(0, .ref 76), (1, .int (nI p)), (2, .int (nI q)), (3, .int (nI 0)), (4, .int (nI (ld_in σ p))), (5, .int (nI (ld_in σ q))), (6, .int (nI c)), (7, .int (nI (gv σ p c))), (8, .int (nI (gv σ q c))), (9, .int ((nI (ld_sumP σ (gv σ q c) p)) - (nI (ld_sum σ (gv σ p c))))), (10, .int ((nI (ld_sumP σ (gv σ p c) q)) - (nI (ld_sum σ (gv σ q c)))))] [.int (nI (gnN σ p q c))] (mm I1 J t) _
              refine zV_istore (lv' := [(0, .ref 76), (1, .int (nI p)), (2, .int (nI q)), (3, .int (nI 0)), (4, .int (nI (ld_in σ p))), (5, .int (nI (ld_in σ q))), (6, .int (nI c)), (7, .int (nI (gv σ p c))), (8, .int (nI (gv σ q c))), (9, .int ((nI (ld_sumP σ (gv σ q c) p)) - (nI (ld_sum σ (gv σ p c))))), (10, .int ((nI (ld_sumP σ (gv σ p c) q)) - (nI (ld_sum σ (gv σ q c))))), (11, .int (nI (gnN σ p q c)))]) dX7_findChange_129 rfl (by decide) rfl ?_
              refine zV_iload dX7_findChange_131 rfl 7 rfl ?_
              refine zV_aload_n dX7_findChange_133 rfl 0 rfl rfl ?_
              refine zV_getI (x := (nI 0)) 6 dX7_findChange_134 rfl fl_RX7_179 rfl (by decide) rfl hfl.1 ?_
              refine zN_icmp_lt (tgt := 158) dX7_findChange_137 rfl rfl (by omega) (by omega) (fun z => absurd z (by omega)) (fun _ => ?_)
              refine zV_iload dX7_findChange_140 rfl 7 rfl ?_
              refine zV_aload_n dX7_findChange_142 rfl 0 rfl rfl ?_
              refine zV_getI (x := (nI 0)) 6 dX7_findChange_143 rfl fl_RX7_179 rfl (by decide) rfl hfl.1 ?_
              refine zN_icmp_ne (tgt := 162) dX7_findChange_146 rfl rfl (by omega) (by omega) (fun h146 => ?_) (fun h146 => ?_)
              · refine zV_iconst (v := (nI 0)) dX7_findChange_162 rfl rfl ?_
                refine zV_istore (lv' := [(0, .ref 76), (1, .int (nI p)), (2, .int (nI q)), (3, .int (nI 0)), (4, .int (nI (ld_in σ p))), (5, .int (nI (ld_in σ q))), (6, .int (nI c)), (7, .int (nI (gv σ p c))), (8, .int (nI (gv σ q c))), (9, .int ((nI (ld_sumP σ (gv σ q c) p)) - (nI (ld_sum σ (gv σ p c))))), (10, .int ((nI (ld_sumP σ (gv σ p c) q)) - (nI (ld_sum σ (gv σ q c))))), (11, .int (nI (gnN σ p q c))), (12, .int (nI 0))]) dX7_findChange_163 rfl (by decide) rfl ?_
                refine zV_iload dX7_findChange_165 rfl 11 rfl ?_
                refine zV_iload_n dX7_findChange_167 rfl 3 rfl rfl ?_
                refine zN_icmp_gt (tgt := 187) dX7_findChange_168 rfl rfl (by omega) (by omega) (fun h168 => ?_) (fun h168 => ?_)
                · refine zV_iload dX7_findChange_187 rfl 11 rfl ?_
                  refine zV_istore_n (lv' := [(0, .ref 76), (1, .int (nI p)), (2, .int (nI q)), (3, .int (nI (gnN σ p q c))), (4, .int (nI (ld_in σ p))), (5, .int (nI (ld_in σ q))), (6, .int (nI c)), (7, .int (nI (gv σ p c))), (8, .int (nI (gv σ q c))), (9, .int ((nI (ld_sumP σ (gv σ q c) p)) - (nI (ld_sum σ (gv σ p c))))), (10, .int ((nI (ld_sumP σ (gv σ p c) q)) - (nI (ld_sum σ (gv σ q c))))), (11, .int (nI (gnN σ p q c))), (12, .int (nI 0))]) dX7_findChange_189 rfl rfl (by decide) rfl ?_
                  refine zV_aload_n dX7_findChange_190 rfl 0 rfl rfl ?_
                  refine zV_iload dX7_findChange_191 rfl 7 rfl ?_
                  refine zV_puti 6 dX7_findChange_193 rfl fl_RX7_179 rfl (by decide) rfl rfl rfl ?_
                  refine zV_aload_n dX7_findChange_196 rfl 0 rfl rfl ?_
                  refine zV_iload dX7_findChange_197 rfl 8 rfl ?_
                  refine zV_puti 7 dX7_findChange_199 rfl fl_RX7_189 rfl (by decide) rfl rfl rfl ?_
                  refine zV_iinc (y := (nI (c + 1))) (lv' := [(0, .ref 76), (1, .int (nI p)), (2, .int (nI q)), (3, .int (nI (gnN σ p q c))), (4, .int (nI (ld_in σ p))), (5, .int (nI (ld_in σ q))), (6, .int (nI (c + 1))), (7, .int (nI (gv σ p c))), (8, .int (nI (gv σ q c))), (9, .int ((nI (ld_sumP σ (gv σ q c) p)) - (nI (ld_sum σ (gv σ p c))))), (10, .int ((nI (ld_sumP σ (gv σ p c) q)) - (nI (ld_sum σ (gv σ q c))))), (11, .int (nI (gnN σ p q c))), (12, .int (nI 0))]) dX7_findChange_202 rfl 6 rfl (nI_1 _) (by decide) rfl ?_
                  refine zV_goto (tgt := 29) dX7_findChange_205 rfl ?_
                  refine zV_keep (lv' := [(0, .ref 76), (1, .int (nI p)), (2, .int (nI q)), (3, .int (nI (gnN σ p q c))), (4, .int (nI (ld_in σ p))), (5, .int (nI (ld_in σ q))), (6, .int (nI (c + 1)))]) [0, 1, 2, 3, 4, 5, 6] rfl ?_
                  have hst := show (fo (bst (rnc σ p q) (fun t => chP σ p q t)) none (ld_u σ p q) (c + 1)) = some c from (if_pos hsb).trans (by rw [eo]; exact if_pos ⟨(tot_0 hW).mpr h75, by omega⟩)
                  have ih2 := ih _ ⟨h1.1.tr ((fr3.up (k := 6) (v := nI (gv σ p c)) (Or.inl rfl)).tr (fr3.up (k := 7) (v := nI (gv σ q c)) (Or.inr (Or.inl rfl)))), by rw [hst]; exact ⟨by rw [up2_nk (by decide), up2_same], up2_same _ _ _ _⟩⟩
                  rw [hst] at ih2
                  exact ih2
                · refine zV_iload dX7_findChange_171 rfl 11 rfl ?_
                  refine zV_iload_n dX7_findChange_173 rfl 3 rfl rfl ?_
                  refine zN_icmp_ne (tgt := 202) dX7_findChange_174 rfl rfl (by omega) (by omega) (fun z => absurd z (fun z => z (by omega))) (fun _ => ?_)
                  refine zV_iload dX7_findChange_177 rfl 11 rfl ?_
                  refine zN_if_le (tgt := 202) dX7_findChange_179 rfl rfl (by omega) (fun _ => ?_) (fun z => absurd z (by omega))
                  refine zV_iinc (y := (nI (c + 1))) (lv' := [(0, .ref 76), (1, .int (nI p)), (2, .int (nI q)), (3, .int (nI 0)), (4, .int (nI (ld_in σ p))), (5, .int (nI (ld_in σ q))), (6, .int (nI (c + 1))), (7, .int (nI (gv σ p c))), (8, .int (nI (gv σ q c))), (9, .int ((nI (ld_sumP σ (gv σ q c) p)) - (nI (ld_sum σ (gv σ p c))))), (10, .int ((nI (ld_sumP σ (gv σ p c) q)) - (nI (ld_sum σ (gv σ q c))))), (11, .int (nI (gnN σ p q c))), (12, .int (nI 0))]) dX7_findChange_202 rfl 6 rfl (nI_1 _) (by decide) rfl ?_
                  refine zV_goto (tgt := 29) dX7_findChange_205 rfl ?_
                  refine zV_keep (lv' := [(0, .ref 76), (1, .int (nI p)), (2, .int (nI q)), (3, .int (nI 0)), (4, .int (nI (ld_in σ p))), (5, .int (nI (ld_in σ q))), (6, .int (nI (c + 1)))]) [0, 1, 2, 3, 4, 5, 6] rfl ?_
                  have hst := show (fo (bst (rnc σ p q) (fun t => chP σ p q t)) none (ld_u σ p q) (c + 1)) = none from (if_pos hsb).trans (by rw [eo]; exact if_neg (fun z => absurd z.2 (by omega)))
                  have ih2 := ih I1 ⟨h1.1, by rw [hst]; exact hfl⟩
                  rw [hst] at ih2
                  exact ih2
              · refine zV_iload dX7_findChange_149 rfl 8 rfl ?_
                refine zV_aload_n dX7_findChange_151 rfl 0 rfl rfl ?_
                refine zV_getI (x := (nI 0)) 7 dX7_findChange_152 rfl fl_RX7_189 rfl (by decide) rfl hfl.2 ?_
                refine zN_icmp_ge (tgt := 162) dX7_findChange_155 rfl rfl (by omega) (by omega) (fun _ => ?_) (fun z => absurd z (by omega))
                refine zV_iconst (v := (nI 0)) dX7_findChange_162 rfl rfl ?_
                refine zV_istore (lv' := [(0, .ref 76), (1, .int (nI p)), (2, .int (nI q)), (3, .int (nI 0)), (4, .int (nI (ld_in σ p))), (5, .int (nI (ld_in σ q))), (6, .int (nI c)), (7, .int (nI (gv σ p c))), (8, .int (nI (gv σ q c))), (9, .int ((nI (ld_sumP σ (gv σ q c) p)) - (nI (ld_sum σ (gv σ p c))))), (10, .int ((nI (ld_sumP σ (gv σ p c) q)) - (nI (ld_sum σ (gv σ q c))))), (11, .int (nI (gnN σ p q c))), (12, .int (nI 0))]) dX7_findChange_163 rfl (by decide) rfl ?_
                refine zV_iload dX7_findChange_165 rfl 11 rfl ?_
                refine zV_iload_n dX7_findChange_167 rfl 3 rfl rfl ?_
                refine zN_icmp_gt (tgt := 187) dX7_findChange_168 rfl rfl (by omega) (by omega) (fun h168 => ?_) (fun h168 => ?_)
                · refine zV_iload dX7_findChange_187 rfl 11 rfl ?_
                  refine zV_istore_n (lv' := [(0, .ref 76), (1, .int (nI p)), (2, .int (nI q)), (3, .int (nI (gnN σ p q c))), (4, .int (nI (ld_in σ p))), (5, .int (nI (ld_in σ q))), (6, .int (nI c)), (7, .int (nI (gv σ p c))), (8, .int (nI (gv σ q c))), (9, .int ((nI (ld_sumP σ (gv σ q c) p)) - (nI (ld_sum σ (gv σ p c))))), (10, .int ((nI (ld_sumP σ (gv σ p c) q)) - (nI (ld_sum σ (gv σ q c))))), (11, .int (nI (gnN σ p q c))), (12, .int (nI 0))]) dX7_findChange_189 rfl rfl (by decide) rfl ?_
                  refine zV_aload_n dX7_findChange_190 rfl 0 rfl rfl ?_
                  refine zV_iload dX7_findChange_191 rfl 7 rfl ?_
                  refine zV_puti 6 dX7_findChange_193 rfl fl_RX7_179 rfl (by decide) rfl rfl rfl ?_
                  refine zV_aload_n dX7_findChange_196 rfl 0 rfl rfl ?_
                  refine zV_iload dX7_findChange_197 rfl 8 rfl ?_
                  refine zV_puti 7 dX7_findChange_199 rfl fl_RX7_189 rfl (by decide) rfl rfl rfl ?_
                  refine zV_iinc (y := (nI (c + 1))) (lv' := [(0, .ref 76), (1, .int (nI p)), (2, .int (nI q)), (3, .int (nI (gnN σ p q c))), (4, .int (nI (ld_in σ p))), (5, .int (nI (ld_in σ q))), (6, .int (nI (c + 1))), (7, .int (nI (gv σ p c))), (8, .int (nI (gv σ q c))), (9, .int ((nI (ld_sumP σ (gv σ q c) p)) - (nI (ld_sum σ (gv σ p c))))), (10, .int ((nI (ld_sumP σ (gv σ p c) q)) - (nI (ld_sum σ (gv σ q c))))), (11, .int (nI (gnN σ p q c))), (12, .int (nI 0))]) dX7_findChange_202 rfl 6 rfl (nI_1 _) (by decide) rfl ?_
                  refine zV_goto (tgt := 29) dX7_findChange_205 rfl ?_
                  refine zV_keep (lv' := [(0, .ref 76), (1, .int (nI p)), (2, .int (nI q)), (3, .int (nI (gnN σ p q c))), (4, .int (nI (ld_in σ p))), (5, .int (nI (ld_in σ q))), (6, .int (nI (c + 1)))]) [0, 1, 2, 3, 4, 5, 6] rfl ?_
                  have hst := show (fo (bst (rnc σ p q) (fun t => chP σ p q t)) none (ld_u σ p q) (c + 1)) = some c from (if_pos hsb).trans (by rw [eo]; exact if_pos ⟨(tot_0 hW).mpr h75, by omega⟩)
                  have ih2 := ih _ ⟨h1.1.tr ((fr3.up (k := 6) (v := nI (gv σ p c)) (Or.inl rfl)).tr (fr3.up (k := 7) (v := nI (gv σ q c)) (Or.inr (Or.inl rfl)))), by rw [hst]; exact ⟨by rw [up2_nk (by decide), up2_same], up2_same _ _ _ _⟩⟩
                  rw [hst] at ih2
                  exact ih2
                · refine zV_iload dX7_findChange_171 rfl 11 rfl ?_
                  refine zV_iload_n dX7_findChange_173 rfl 3 rfl rfl ?_
                  refine zN_icmp_ne (tgt := 202) dX7_findChange_174 rfl rfl (by omega) (by omega) (fun z => absurd z (fun z => z (by omega))) (fun _ => ?_)
                  refine zV_iload dX7_findChange_177 rfl 11 rfl ?_
                  refine zN_if_le (tgt := 202) dX7_findChange_179 rfl rfl (by omega) (fun _ => ?_) (fun z => absurd z (by omega))
                  refine zV_iinc (y := (nI (c + 1))) (lv' := [(0, .ref 76), (1, .int (nI p)), (2, .int (nI q)), (3, .int (nI 0)), (4, .int (nI (ld_in σ p))), (5, .int (nI (ld_in σ q))), (6, .int (nI (c + 1))), (7, .int (nI (gv σ p c))), (8, .int (nI (gv σ q c))), (9, .int ((nI (ld_sumP σ (gv σ q c) p)) - (nI (ld_sum σ (gv σ p c))))), (10, .int ((nI (ld_sumP σ (gv σ p c) q)) - (nI (ld_sum σ (gv σ q c))))), (11, .int (nI (gnN σ p q c))), (12, .int (nI 0))]) dX7_findChange_202 rfl 6 rfl (nI_1 _) (by decide) rfl ?_
                  refine zV_goto (tgt := 29) dX7_findChange_205 rfl ?_
                  refine zV_keep (lv' := [(0, .ref 76), (1, .int (nI p)), (2, .int (nI q)), (3, .int (nI 0)), (4, .int (nI (ld_in σ p))), (5, .int (nI (ld_in σ q))), (6, .int (nI (c + 1)))]) [0, 1, 2, 3, 4, 5, 6] rfl ?_
                  have hst := show (fo (bst (rnc σ p q) (fun t => chP σ p q t)) none (ld_u σ p q) (c + 1)) = none from (if_pos hsb).trans (by rw [eo]; exact if_neg (fun z => absurd z.2 (by omega)))
                  have ih2 := ih I1 ⟨h1.1, by rw [hst]; exact hfl⟩
                  rw [hst] at ih2
                  exact ih2
            | some bb =>
              rw [eo] at hfl
              have hcp := (fo_bst _ _ eo).2.2
              have gn2 := gnN_le hW p q bb
              have g4 := gv_lt n10 p bb
              have g5 := gv_lt n10 q bb
              show zV G (eX7_findChange (g_rmv 5)) (0, 0) 129 [(0, .ref 76), (1, .int (nI p)), (2, .int (nI q)), (3, .int (nI (gnN σ p q bb))), (4, .int (nI (ld_in σ p))), (5, .int (nI (ld_in σ q))), (6, .int (nI c)), (7, .int (nI (gv σ p c))), (8, .int (nI (gv σ q c))), (9, .int ((nI (ld_sumP σ (gv σ q c) p)) - (nI (ld_sum σ (gv σ p c))))), (10, .int ((nI (ld_sumP σ (gv σ p c) q)) - (nI (ld_sum σ (gv σ q c)))))] [.int (nI (gnN σ p q c))] (mm I1 J t) _
              refine zV_istore (lv' := [(0, .ref 76), (1, .int (nI p)), (2, .int (nI q)), (3, .int (nI (gnN σ p q bb))), (4, .int (nI (ld_in σ p))), (5, .int (nI (ld_in σ q))), (6, .int (nI c)), (7, .int (nI (gv σ p c))), (8, .int (nI (gv σ q c))), (9, .int ((nI (ld_sumP σ (gv σ q c) p)) - (nI (ld_sum σ (gv σ p c))))), (10, .int ((nI (ld_sumP σ (gv σ p c) q)) - (nI (ld_sum σ (gv σ q c))))), (11, .int (nI (gnN σ p q c)))]) dX7_findChange_129 rfl (by decide) rfl ?_
              refine zV_iload dX7_findChange_131 rfl 7 rfl ?_
              refine zV_aload_n dX7_findChange_133 rfl 0 rfl rfl ?_
              refine zV_getI (x := (nI (gv σ p bb))) 6 dX7_findChange_134 rfl fl_RX7_179 rfl (by decide) rfl hfl.1 ?_
              refine zN_icmp_lt (tgt := 158) dX7_findChange_137 rfl rfl (by omega) (by omega) (fun h137 => ?_) (fun h137 => ?_)
              · refine zV_iconst (v := (nI 1)) dX7_findChange_158 rfl rfl ?_
                refine zV_goto (tgt := 163) dX7_findChange_159 rfl ?_
                refine zV_istore (lv' := [(0, .ref 76), (1, .int (nI p)), (2, .int (nI q)), (3, .int (nI (gnN σ p q bb))), (4, .int (nI (ld_in σ p))), (5, .int (nI (ld_in σ q))), (6, .int (nI c)), (7, .int (nI (gv σ p c))), (8, .int (nI (gv σ q c))), (9, .int ((nI (ld_sumP σ (gv σ q c) p)) - (nI (ld_sum σ (gv σ p c))))), (10, .int ((nI (ld_sumP σ (gv σ p c) q)) - (nI (ld_sum σ (gv σ q c))))), (11, .int (nI (gnN σ p q c))), (12, .int (nI 1))]) dX7_findChange_163 rfl (by decide) rfl ?_
                refine zV_iload dX7_findChange_165 rfl 11 rfl ?_
                refine zV_iload_n dX7_findChange_167 rfl 3 rfl rfl ?_
                refine zN_icmp_gt (tgt := 187) dX7_findChange_168 rfl rfl (by omega) (by omega) (fun h168 => ?_) (fun h168 => ?_)
                · refine zV_iload dX7_findChange_187 rfl 11 rfl ?_
                  refine zV_istore_n (lv' := [(0, .ref 76), (1, .int (nI p)), (2, .int (nI q)), (3, .int (nI (gnN σ p q c))), (4, .int (nI (ld_in σ p))), (5, .int (nI (ld_in σ q))), (6, .int (nI c)), (7, .int (nI (gv σ p c))), (8, .int (nI (gv σ q c))), (9, .int ((nI (ld_sumP σ (gv σ q c) p)) - (nI (ld_sum σ (gv σ p c))))), (10, .int ((nI (ld_sumP σ (gv σ p c) q)) - (nI (ld_sum σ (gv σ q c))))), (11, .int (nI (gnN σ p q c))), (12, .int (nI 1))]) dX7_findChange_189 rfl rfl (by decide) rfl ?_
                  refine zV_aload_n dX7_findChange_190 rfl 0 rfl rfl ?_
                  refine zV_iload dX7_findChange_191 rfl 7 rfl ?_
                  refine zV_puti 6 dX7_findChange_193 rfl fl_RX7_179 rfl (by decide) rfl rfl rfl ?_
                  refine zV_aload_n dX7_findChange_196 rfl 0 rfl rfl ?_
                  refine zV_iload dX7_findChange_197 rfl 8 rfl ?_
                  refine zV_puti 7 dX7_findChange_199 rfl fl_RX7_189 rfl (by decide) rfl rfl rfl ?_
                  refine zV_iinc (y := (nI (c + 1))) (lv' := [(0, .ref 76), (1, .int (nI p)), (2, .int (nI q)), (3, .int (nI (gnN σ p q c))), (4, .int (nI (ld_in σ p))), (5, .int (nI (ld_in σ q))), (6, .int (nI (c + 1))), (7, .int (nI (gv σ p c))), (8, .int (nI (gv σ q c))), (9, .int ((nI (ld_sumP σ (gv σ q c) p)) - (nI (ld_sum σ (gv σ p c))))), (10, .int ((nI (ld_sumP σ (gv σ p c) q)) - (nI (ld_sum σ (gv σ q c))))), (11, .int (nI (gnN σ p q c))), (12, .int (nI 1))]) dX7_findChange_202 rfl 6 rfl (nI_1 _) (by decide) rfl ?_
                  refine zV_goto (tgt := 29) dX7_findChange_205 rfl ?_
                  refine zV_keep (lv' := [(0, .ref 76), (1, .int (nI p)), (2, .int (nI q)), (3, .int (nI (gnN σ p q c))), (4, .int (nI (ld_in σ p))), (5, .int (nI (ld_in σ q))), (6, .int (nI (c + 1)))]) [0, 1, 2, 3, 4, 5, 6] rfl ?_
                  have hst := show (fo (bst (rnc σ p q) (fun t => chP σ p q t)) none (ld_u σ p q) (c + 1)) = some c from (if_pos hsb).trans (by rw [eo]; exact (if_pos ⟨(tot_0 hW).mpr h75, by omega⟩).trans (if_pos ((rnc_lt hW p q c bb).mpr (by omega))))
                  have ih2 := ih _ ⟨h1.1.tr ((fr3.up (k := 6) (v := nI (gv σ p c)) (Or.inl rfl)).tr (fr3.up (k := 7) (v := nI (gv σ q c)) (Or.inr (Or.inl rfl)))), by rw [hst]; exact ⟨by rw [up2_nk (by decide), up2_same], up2_same _ _ _ _⟩⟩
                  rw [hst] at ih2
                  exact ih2
                · refine zV_iload dX7_findChange_171 rfl 11 rfl ?_
                  refine zV_iload_n dX7_findChange_173 rfl 3 rfl rfl ?_
                  refine zN_icmp_ne (tgt := 202) dX7_findChange_174 rfl rfl (by omega) (by omega) (fun h174 => ?_) (fun h174 => ?_)
                  · refine zV_iinc (y := (nI (c + 1))) (lv' := [(0, .ref 76), (1, .int (nI p)), (2, .int (nI q)), (3, .int (nI (gnN σ p q bb))), (4, .int (nI (ld_in σ p))), (5, .int (nI (ld_in σ q))), (6, .int (nI (c + 1))), (7, .int (nI (gv σ p c))), (8, .int (nI (gv σ q c))), (9, .int ((nI (ld_sumP σ (gv σ q c) p)) - (nI (ld_sum σ (gv σ p c))))), (10, .int ((nI (ld_sumP σ (gv σ p c) q)) - (nI (ld_sum σ (gv σ q c))))), (11, .int (nI (gnN σ p q c))), (12, .int (nI 1))]) dX7_findChange_202 rfl 6 rfl (nI_1 _) (by decide) rfl ?_
                    refine zV_goto (tgt := 29) dX7_findChange_205 rfl ?_
                    refine zV_keep (lv' := [(0, .ref 76), (1, .int (nI p)), (2, .int (nI q)), (3, .int (nI (gnN σ p q bb))), (4, .int (nI (ld_in σ p))), (5, .int (nI (ld_in σ q))), (6, .int (nI (c + 1)))]) [0, 1, 2, 3, 4, 5, 6] rfl ?_
                    have hst := show (fo (bst (rnc σ p q) (fun t => chP σ p q t)) none (ld_u σ p q) (c + 1)) = some bb from (if_pos hsb).trans (by rw [eo]; exact bst_keep (fun z => by have z2 := (rnc_lt hW p q c bb).mp z; omega))
                    have ih2 := ih I1 ⟨h1.1, by rw [hst]; exact hfl⟩
                    rw [hst] at ih2
                    exact ih2
                  · refine zV_iload dX7_findChange_177 rfl 11 rfl ?_
                    refine zN_if_le (tgt := 202) dX7_findChange_179 rfl rfl (by omega) (fun z => absurd z (by omega)) (fun _ => ?_)
                    refine zV_iload dX7_findChange_182 rfl 12 rfl ?_
                    refine zN_if_eq (tgt := 202) dX7_findChange_184 rfl rfl (by decide) (fun z => absurd z (by decide)) (fun _ => ?_)
                    refine zV_iload dX7_findChange_187 rfl 11 rfl ?_
                    refine zV_istore_n (lv' := [(0, .ref 76), (1, .int (nI p)), (2, .int (nI q)), (3, .int (nI (gnN σ p q c))), (4, .int (nI (ld_in σ p))), (5, .int (nI (ld_in σ q))), (6, .int (nI c)), (7, .int (nI (gv σ p c))), (8, .int (nI (gv σ q c))), (9, .int ((nI (ld_sumP σ (gv σ q c) p)) - (nI (ld_sum σ (gv σ p c))))), (10, .int ((nI (ld_sumP σ (gv σ p c) q)) - (nI (ld_sum σ (gv σ q c))))), (11, .int (nI (gnN σ p q c))), (12, .int (nI 1))]) dX7_findChange_189 rfl rfl (by decide) rfl ?_
                    refine zV_aload_n dX7_findChange_190 rfl 0 rfl rfl ?_
                    refine zV_iload dX7_findChange_191 rfl 7 rfl ?_
                    refine zV_puti 6 dX7_findChange_193 rfl fl_RX7_179 rfl (by decide) rfl rfl rfl ?_
                    refine zV_aload_n dX7_findChange_196 rfl 0 rfl rfl ?_
                    refine zV_iload dX7_findChange_197 rfl 8 rfl ?_
                    refine zV_puti 7 dX7_findChange_199 rfl fl_RX7_189 rfl (by decide) rfl rfl rfl ?_
                    refine zV_iinc (y := (nI (c + 1))) (lv' := [(0, .ref 76), (1, .int (nI p)), (2, .int (nI q)), (3, .int (nI (gnN σ p q c))), (4, .int (nI (ld_in σ p))), (5, .int (nI (ld_in σ q))), (6, .int (nI (c + 1))), (7, .int (nI (gv σ p c))), (8, .int (nI (gv σ q c))), (9, .int ((nI (ld_sumP σ (gv σ q c) p)) - (nI (ld_sum σ (gv σ p c))))), (10, .int ((nI (ld_sumP σ (gv σ p c) q)) - (nI (ld_sum σ (gv σ q c))))), (11, .int (nI (gnN σ p q c))), (12, .int (nI 1))]) dX7_findChange_202 rfl 6 rfl (nI_1 _) (by decide) rfl ?_
                    refine zV_goto (tgt := 29) dX7_findChange_205 rfl ?_
                    refine zV_keep (lv' := [(0, .ref 76), (1, .int (nI p)), (2, .int (nI q)), (3, .int (nI (gnN σ p q c))), (4, .int (nI (ld_in σ p))), (5, .int (nI (ld_in σ q))), (6, .int (nI (c + 1)))]) [0, 1, 2, 3, 4, 5, 6] rfl ?_
                    have hst := show (fo (bst (rnc σ p q) (fun t => chP σ p q t)) none (ld_u σ p q) (c + 1)) = some c from (if_pos hsb).trans (by rw [eo]; exact (if_pos ⟨(tot_0 hW).mpr h75, by omega⟩).trans (if_pos ((rnc_lt hW p q c bb).mpr (by omega))))
                    have ih2 := ih _ ⟨h1.1.tr ((fr3.up (k := 6) (v := nI (gv σ p c)) (Or.inl rfl)).tr (fr3.up (k := 7) (v := nI (gv σ q c)) (Or.inr (Or.inl rfl)))), by rw [hst]; exact ⟨by rw [up2_nk (by decide), up2_same], up2_same _ _ _ _⟩⟩
                    rw [hst] at ih2
                    exact ih2
              · refine zV_iload dX7_findChange_140 rfl 7 rfl ?_
                refine zV_aload_n dX7_findChange_142 rfl 0 rfl rfl ?_
                refine zV_getI (x := (nI (gv σ p bb))) 6 dX7_findChange_143 rfl fl_RX7_179 rfl (by decide) rfl hfl.1 ?_
                refine zN_icmp_ne (tgt := 162) dX7_findChange_146 rfl rfl (by omega) (by omega) (fun h146 => ?_) (fun h146 => ?_)
                · refine zV_iconst (v := (nI 0)) dX7_findChange_162 rfl rfl ?_
                  refine zV_istore (lv' := [(0, .ref 76), (1, .int (nI p)), (2, .int (nI q)), (3, .int (nI (gnN σ p q bb))), (4, .int (nI (ld_in σ p))), (5, .int (nI (ld_in σ q))), (6, .int (nI c)), (7, .int (nI (gv σ p c))), (8, .int (nI (gv σ q c))), (9, .int ((nI (ld_sumP σ (gv σ q c) p)) - (nI (ld_sum σ (gv σ p c))))), (10, .int ((nI (ld_sumP σ (gv σ p c) q)) - (nI (ld_sum σ (gv σ q c))))), (11, .int (nI (gnN σ p q c))), (12, .int (nI 0))]) dX7_findChange_163 rfl (by decide) rfl ?_
                  refine zV_iload dX7_findChange_165 rfl 11 rfl ?_
                  refine zV_iload_n dX7_findChange_167 rfl 3 rfl rfl ?_
                  refine zN_icmp_gt (tgt := 187) dX7_findChange_168 rfl rfl (by omega) (by omega) (fun h168 => ?_) (fun h168 => ?_)
                  · refine zV_iload dX7_findChange_187 rfl 11 rfl ?_
                    refine zV_istore_n (lv' := [(0, .ref 76), (1, .int (nI p)), (2, .int (nI q)), (3, .int (nI (gnN σ p q c))), (4, .int (nI (ld_in σ p))), (5, .int (nI (ld_in σ q))), (6, .int (nI c)), (7, .int (nI (gv σ p c))), (8, .int (nI (gv σ q c))), (9, .int ((nI (ld_sumP σ (gv σ q c) p)) - (nI (ld_sum σ (gv σ p c))))), (10, .int ((nI (ld_sumP σ (gv σ p c) q)) - (nI (ld_sum σ (gv σ q c))))), (11, .int (nI (gnN σ p q c))), (12, .int (nI 0))]) dX7_findChange_189 rfl rfl (by decide) rfl ?_
                    refine zV_aload_n dX7_findChange_190 rfl 0 rfl rfl ?_
                    refine zV_iload dX7_findChange_191 rfl 7 rfl ?_
                    refine zV_puti 6 dX7_findChange_193 rfl fl_RX7_179 rfl (by decide) rfl rfl rfl ?_
                    refine zV_aload_n dX7_findChange_196 rfl 0 rfl rfl ?_
                    refine zV_iload dX7_findChange_197 rfl 8 rfl ?_
                    refine zV_puti 7 dX7_findChange_199 rfl fl_RX7_189 rfl (by decide) rfl rfl rfl ?_
                    refine zV_iinc (y := (nI (c + 1))) (lv' := [(0, .ref 76), (1, .int (nI p)), (2, .int (nI q)), (3, .int (nI (gnN σ p q c))), (4, .int (nI (ld_in σ p))), (5, .int (nI (ld_in σ q))), (6, .int (nI (c + 1))), (7, .int (nI (gv σ p c))), (8, .int (nI (gv σ q c))), (9, .int ((nI (ld_sumP σ (gv σ q c) p)) - (nI (ld_sum σ (gv σ p c))))), (10, .int ((nI (ld_sumP σ (gv σ p c) q)) - (nI (ld_sum σ (gv σ q c))))), (11, .int (nI (gnN σ p q c))), (12, .int (nI 0))]) dX7_findChange_202 rfl 6 rfl (nI_1 _) (by decide) rfl ?_
                    refine zV_goto (tgt := 29) dX7_findChange_205 rfl ?_
                    refine zV_keep (lv' := [(0, .ref 76), (1, .int (nI p)), (2, .int (nI q)), (3, .int (nI (gnN σ p q c))), (4, .int (nI (ld_in σ p))), (5, .int (nI (ld_in σ q))), (6, .int (nI (c + 1)))]) [0, 1, 2, 3, 4, 5, 6] rfl ?_
                    have hst := show (fo (bst (rnc σ p q) (fun t => chP σ p q t)) none (ld_u σ p q) (c + 1)) = some c from (if_pos hsb).trans (by rw [eo]; exact (if_pos ⟨(tot_0 hW).mpr h75, by omega⟩).trans (if_pos ((rnc_lt hW p q c bb).mpr (by omega))))
                    have ih2 := ih _ ⟨h1.1.tr ((fr3.up (k := 6) (v := nI (gv σ p c)) (Or.inl rfl)).tr (fr3.up (k := 7) (v := nI (gv σ q c)) (Or.inr (Or.inl rfl)))), by rw [hst]; exact ⟨by rw [up2_nk (by decide), up2_same], up2_same _ _ _ _⟩⟩
                    rw [hst] at ih2
                    exact ih2
                  · refine zV_iload dX7_findChange_171 rfl 11 rfl ?_
                    refine zV_iload_n dX7_findChange_173 rfl 3 rfl rfl ?_
                    refine zN_icmp_ne (tgt := 202) dX7_findChange_174 rfl rfl (by omega) (by omega) (fun h174 => ?_) (fun h174 => ?_)
                    · refine zV_iinc (y := (nI (c + 1))) (lv' := [(0, .ref 76), (1, .int (nI p)), (2, .int (nI q)), (3, .int (nI (gnN σ p q bb))), (4, .int (nI (ld_in σ p))), (5, .int (nI (ld_in σ q))), (6, .int (nI (c + 1))), (7, .int (nI (gv σ p c))), (8, .int (nI (gv σ q c))), (9, .int ((nI (ld_sumP σ (gv σ q c) p)) - (nI (ld_sum σ (gv σ p c))))), (10, .int ((nI (ld_sumP σ (gv σ p c) q)) - (nI (ld_sum σ (gv σ q c))))), (11, .int (nI (gnN σ p q c))), (12, .int (nI 0))]) dX7_findChange_202 rfl 6 rfl (nI_1 _) (by decide) rfl ?_
                      refine zV_goto (tgt := 29) dX7_findChange_205 rfl ?_
                      refine zV_keep (lv' := [(0, .ref 76), (1, .int (nI p)), (2, .int (nI q)), (3, .int (nI (gnN σ p q bb))), (4, .int (nI (ld_in σ p))), (5, .int (nI (ld_in σ q))), (6, .int (nI (c + 1)))]) [0, 1, 2, 3, 4, 5, 6] rfl ?_
                      have hst := show (fo (bst (rnc σ p q) (fun t => chP σ p q t)) none (ld_u σ p q) (c + 1)) = some bb from (if_pos hsb).trans (by rw [eo]; exact bst_keep (fun z => by have z2 := (rnc_lt hW p q c bb).mp z; omega))
                      have ih2 := ih I1 ⟨h1.1, by rw [hst]; exact hfl⟩
                      rw [hst] at ih2
                      exact ih2
                    · refine zV_iload dX7_findChange_177 rfl 11 rfl ?_
                      refine zN_if_le (tgt := 202) dX7_findChange_179 rfl rfl (by omega) (fun z => absurd z (by omega)) (fun _ => ?_)
                      refine zV_iload dX7_findChange_182 rfl 12 rfl ?_
                      refine zN_if_eq (tgt := 202) dX7_findChange_184 rfl rfl (by decide) (fun _ => ?_) (fun z => absurd z (by decide))
                      refine zV_iinc (y := (nI (c + 1))) (lv' := [(0, .ref 76), (1, .int (nI p)), (2, .int (nI q)), (3, .int (nI (gnN σ p q bb))), (4, .int (nI (ld_in σ p))), (5, .int (nI (ld_in σ q))), (6, .int (nI (c + 1))), (7, .int (nI (gv σ p c))), (8, .int (nI (gv σ q c))), (9, .int ((nI (ld_sumP σ (gv σ q c) p)) - (nI (ld_sum σ (gv σ p c))))), (10, .int ((nI (ld_sumP σ (gv σ p c) q)) - (nI (ld_sum σ (gv σ q c))))), (11, .int (nI (gnN σ p q c))), (12, .int (nI 0))]) dX7_findChange_202 rfl 6 rfl (nI_1 _) (by decide) rfl ?_
                      refine zV_goto (tgt := 29) dX7_findChange_205 rfl ?_
                      refine zV_keep (lv' := [(0, .ref 76), (1, .int (nI p)), (2, .int (nI q)), (3, .int (nI (gnN σ p q bb))), (4, .int (nI (ld_in σ p))), (5, .int (nI (ld_in σ q))), (6, .int (nI (c + 1)))]) [0, 1, 2, 3, 4, 5, 6] rfl ?_
                      have hst := show (fo (bst (rnc σ p q) (fun t => chP σ p q t)) none (ld_u σ p q) (c + 1)) = some bb from (if_pos hsb).trans (by rw [eo]; exact bst_keep (fun z => by have z2 := (rnc_lt hW p q c bb).mp z; omega))
                      have ih2 := ih I1 ⟨h1.1, by rw [hst]; exact hfl⟩
                      rw [hst] at ih2
                      exact ih2
                · refine zV_iload dX7_findChange_149 rfl 8 rfl ?_
                  refine zV_aload_n dX7_findChange_151 rfl 0 rfl rfl ?_
                  refine zV_getI (x := (nI (gv σ q bb))) 7 dX7_findChange_152 rfl fl_RX7_189 rfl (by decide) rfl hfl.2 ?_
                  refine zN_icmp_ge (tgt := 162) dX7_findChange_155 rfl rfl (by omega) (by omega) (fun h155 => ?_) (fun h155 => ?_)
                  · refine zV_iconst (v := (nI 0)) dX7_findChange_162 rfl rfl ?_
                    refine zV_istore (lv' := [(0, .ref 76), (1, .int (nI p)), (2, .int (nI q)), (3, .int (nI (gnN σ p q bb))), (4, .int (nI (ld_in σ p))), (5, .int (nI (ld_in σ q))), (6, .int (nI c)), (7, .int (nI (gv σ p c))), (8, .int (nI (gv σ q c))), (9, .int ((nI (ld_sumP σ (gv σ q c) p)) - (nI (ld_sum σ (gv σ p c))))), (10, .int ((nI (ld_sumP σ (gv σ p c) q)) - (nI (ld_sum σ (gv σ q c))))), (11, .int (nI (gnN σ p q c))), (12, .int (nI 0))]) dX7_findChange_163 rfl (by decide) rfl ?_
                    refine zV_iload dX7_findChange_165 rfl 11 rfl ?_
                    refine zV_iload_n dX7_findChange_167 rfl 3 rfl rfl ?_
                    refine zN_icmp_gt (tgt := 187) dX7_findChange_168 rfl rfl (by omega) (by omega) (fun h168 => ?_) (fun h168 => ?_)
                    · refine zV_iload dX7_findChange_187 rfl 11 rfl ?_
                      refine zV_istore_n (lv' := [(0, .ref 76), (1, .int (nI p)), (2, .int (nI q)), (3, .int (nI (gnN σ p q c))), (4, .int (nI (ld_in σ p))), (5, .int (nI (ld_in σ q))), (6, .int (nI c)), (7, .int (nI (gv σ p c))), (8, .int (nI (gv σ q c))), (9, .int ((nI (ld_sumP σ (gv σ q c) p)) - (nI (ld_sum σ (gv σ p c))))), (10, .int ((nI (ld_sumP σ (gv σ p c) q)) - (nI (ld_sum σ (gv σ q c))))), (11, .int (nI (gnN σ p q c))), (12, .int (nI 0))]) dX7_findChange_189 rfl rfl (by decide) rfl ?_
                      refine zV_aload_n dX7_findChange_190 rfl 0 rfl rfl ?_
                      refine zV_iload dX7_findChange_191 rfl 7 rfl ?_
                      refine zV_puti 6 dX7_findChange_193 rfl fl_RX7_179 rfl (by decide) rfl rfl rfl ?_
                      refine zV_aload_n dX7_findChange_196 rfl 0 rfl rfl ?_
                      refine zV_iload dX7_findChange_197 rfl 8 rfl ?_
                      refine zV_puti 7 dX7_findChange_199 rfl fl_RX7_189 rfl (by decide) rfl rfl rfl ?_
                      refine zV_iinc (y := (nI (c + 1))) (lv' := [(0, .ref 76), (1, .int (nI p)), (2, .int (nI q)), (3, .int (nI (gnN σ p q c))), (4, .int (nI (ld_in σ p))), (5, .int (nI (ld_in σ q))), (6, .int (nI (c + 1))), (7, .int (nI (gv σ p c))), (8, .int (nI (gv σ q c))), (9, .int ((nI (ld_sumP σ (gv σ q c) p)) - (nI (ld_sum σ (gv σ p c))))), (10, .int ((nI (ld_sumP σ (gv σ p c) q)) - (nI (ld_sum σ (gv σ q c))))), (11, .int (nI (gnN σ p q c))), (12, .int (nI 0))]) dX7_findChange_202 rfl 6 rfl (nI_1 _) (by decide) rfl ?_
                      refine zV_goto (tgt := 29) dX7_findChange_205 rfl ?_
                      refine zV_keep (lv' := [(0, .ref 76), (1, .int (nI p)), (2, .int (nI q)), (3, .int (nI (gnN σ p q c))), (4, .int (nI (ld_in σ p))), (5, .int (nI (ld_in σ q))), (6, .int (nI (c + 1)))]) [0, 1, 2, 3, 4, 5, 6] rfl ?_
                      have hst := show (fo (bst (rnc σ p q) (fun t => chP σ p q t)) none (ld_u σ p q) (c + 1)) = some c from (if_pos hsb).trans (by rw [eo]; exact (if_pos ⟨(tot_0 hW).mpr h75, by omega⟩).trans (if_pos ((rnc_lt hW p q c bb).mpr (by omega))))
                      have ih2 := ih _ ⟨h1.1.tr ((fr3.up (k := 6) (v := nI (gv σ p c)) (Or.inl rfl)).tr (fr3.up (k := 7) (v := nI (gv σ q c)) (Or.inr (Or.inl rfl)))), by rw [hst]; exact ⟨by rw [up2_nk (by decide), up2_same], up2_same _ _ _ _⟩⟩
                      rw [hst] at ih2
                      exact ih2
                    · refine zV_iload dX7_findChange_171 rfl 11 rfl ?_
                      refine zV_iload_n dX7_findChange_173 rfl 3 rfl rfl ?_
                      refine zN_icmp_ne (tgt := 202) dX7_findChange_174 rfl rfl (by omega) (by omega) (fun h174 => ?_) (fun h174 => ?_)
                      · refine zV_iinc (y := (nI (c + 1))) (lv' := [(0, .ref 76), (1, .int (nI p)), (2, .int (nI q)), (3, .int (nI (gnN σ p q bb))), (4, .int (nI (ld_in σ p))), (5, .int (nI (ld_in σ q))), (6, .int (nI (c + 1))), (7, .int (nI (gv σ p c))), (8, .int (nI (gv σ q c))), (9, .int ((nI (ld_sumP σ (gv σ q c) p)) - (nI (ld_sum σ (gv σ p c))))), (10, .int ((nI (ld_sumP σ (gv σ p c) q)) - (nI (ld_sum σ (gv σ q c))))), (11, .int (nI (gnN σ p q c))), (12, .int (nI 0))]) dX7_findChange_202 rfl 6 rfl (nI_1 _) (by decide) rfl ?_
                        refine zV_goto (tgt := 29) dX7_findChange_205 rfl ?_
                        refine zV_keep (lv' := [(0, .ref 76), (1, .int (nI p)), (2, .int (nI q)), (3, .int (nI (gnN σ p q bb))), (4, .int (nI (ld_in σ p))), (5, .int (nI (ld_in σ q))), (6, .int (nI (c + 1)))]) [0, 1, 2, 3, 4, 5, 6] rfl ?_
                        have hst := show (fo (bst (rnc σ p q) (fun t => chP σ p q t)) none (ld_u σ p q) (c + 1)) = some bb from (if_pos hsb).trans (by rw [eo]; exact bst_keep (fun z => by have z2 := (rnc_lt hW p q c bb).mp z; omega))
                        have ih2 := ih I1 ⟨h1.1, by rw [hst]; exact hfl⟩
                        rw [hst] at ih2
                        exact ih2
                      · refine zV_iload dX7_findChange_177 rfl 11 rfl ?_
                        refine zN_if_le (tgt := 202) dX7_findChange_179 rfl rfl (by omega) (fun z => absurd z (by omega)) (fun _ => ?_)
                        refine zV_iload dX7_findChange_182 rfl 12 rfl ?_
                        refine zN_if_eq (tgt := 202) dX7_findChange_184 rfl rfl (by decide) (fun _ => ?_) (fun z => absurd z (by decide))
                        refine zV_iinc (y := (nI (c + 1))) (lv' := [(0, .ref 76), (1, .int (nI p)), (2, .int (nI q)), (3, .int (nI (gnN σ p q bb))), (4, .int (nI (ld_in σ p))), (5, .int (nI (ld_in σ q))), (6, .int (nI (c + 1))), (7, .int (nI (gv σ p c))), (8, .int (nI (gv σ q c))), (9, .int ((nI (ld_sumP σ (gv σ q c) p)) - (nI (ld_sum σ (gv σ p c))))), (10, .int ((nI (ld_sumP σ (gv σ p c) q)) - (nI (ld_sum σ (gv σ q c))))), (11, .int (nI (gnN σ p q c))), (12, .int (nI 0))]) dX7_findChange_202 rfl 6 rfl (nI_1 _) (by decide) rfl ?_
                        refine zV_goto (tgt := 29) dX7_findChange_205 rfl ?_
                        refine zV_keep (lv' := [(0, .ref 76), (1, .int (nI p)), (2, .int (nI q)), (3, .int (nI (gnN σ p q bb))), (4, .int (nI (ld_in σ p))), (5, .int (nI (ld_in σ q))), (6, .int (nI (c + 1)))]) [0, 1, 2, 3, 4, 5, 6] rfl ?_
                        have hst := show (fo (bst (rnc σ p q) (fun t => chP σ p q t)) none (ld_u σ p q) (c + 1)) = some bb from (if_pos hsb).trans (by rw [eo]; exact bst_keep (fun z => by have z2 := (rnc_lt hW p q c bb).mp z; omega))
                        have ih2 := ih I1 ⟨h1.1, by rw [hst]; exact hfl⟩
                        rw [hst] at ih2
                        exact ih2
                  · refine zV_iconst (v := (nI 1)) dX7_findChange_158 rfl rfl ?_
                    refine zV_goto (tgt := 163) dX7_findChange_159 rfl ?_
                    refine zV_istore (lv' := [(0, .ref 76), (1, .int (nI p)), (2, .int (nI q)), (3, .int (nI (gnN σ p q bb))), (4, .int (nI (ld_in σ p))), (5, .int (nI (ld_in σ q))), (6, .int (nI c)), (7, .int (nI (gv σ p c))), (8, .int (nI (gv σ q c))), (9, .int ((nI (ld_sumP σ (gv σ q c) p)) - (nI (ld_sum σ (gv σ p c))))), (10, .int ((nI (ld_sumP σ (gv σ p c) q)) - (nI (ld_sum σ (gv σ q c))))), (11, .int (nI (gnN σ p q c))), (12, .int (nI 1))]) dX7_findChange_163 rfl (by decide) rfl ?_
                    refine zV_iload dX7_findChange_165 rfl 11 rfl ?_
                    refine zV_iload_n dX7_findChange_167 rfl 3 rfl rfl ?_
                    refine zN_icmp_gt (tgt := 187) dX7_findChange_168 rfl rfl (by omega) (by omega) (fun h168 => ?_) (fun h168 => ?_)
                    · refine zV_iload dX7_findChange_187 rfl 11 rfl ?_
                      refine zV_istore_n (lv' := [(0, .ref 76), (1, .int (nI p)), (2, .int (nI q)), (3, .int (nI (gnN σ p q c))), (4, .int (nI (ld_in σ p))), (5, .int (nI (ld_in σ q))), (6, .int (nI c)), (7, .int (nI (gv σ p c))), (8, .int (nI (gv σ q c))), (9, .int ((nI (ld_sumP σ (gv σ q c) p)) - (nI (ld_sum σ (gv σ p c))))), (10, .int ((nI (ld_sumP σ (gv σ p c) q)) - (nI (ld_sum σ (gv σ q c))))), (11, .int (nI (gnN σ p q c))), (12, .int (nI 1))]) dX7_findChange_189 rfl rfl (by decide) rfl ?_
                      refine zV_aload_n dX7_findChange_190 rfl 0 rfl rfl ?_
                      refine zV_iload dX7_findChange_191 rfl 7 rfl ?_
                      refine zV_puti 6 dX7_findChange_193 rfl fl_RX7_179 rfl (by decide) rfl rfl rfl ?_
                      refine zV_aload_n dX7_findChange_196 rfl 0 rfl rfl ?_
                      refine zV_iload dX7_findChange_197 rfl 8 rfl ?_
                      refine zV_puti 7 dX7_findChange_199 rfl fl_RX7_189 rfl (by decide) rfl rfl rfl ?_
                      refine zV_iinc (y := (nI (c + 1))) (lv' := [(0, .ref 76), (1, .int (nI p)), (2, .int (nI q)), (3, .int (nI (gnN σ p q c))), (4, .int (nI (ld_in σ p))), (5, .int (nI (ld_in σ q))), (6, .int (nI (c + 1))), (7, .int (nI (gv σ p c))), (8, .int (nI (gv σ q c))), (9, .int ((nI (ld_sumP σ (gv σ q c) p)) - (nI (ld_sum σ (gv σ p c))))), (10, .int ((nI (ld_sumP σ (gv σ p c) q)) - (nI (ld_sum σ (gv σ q c))))), (11, .int (nI (gnN σ p q c))), (12, .int (nI 1))]) dX7_findChange_202 rfl 6 rfl (nI_1 _) (by decide) rfl ?_
                      refine zV_goto (tgt := 29) dX7_findChange_205 rfl ?_
                      refine zV_keep (lv' := [(0, .ref 76), (1, .int (nI p)), (2, .int (nI q)), (3, .int (nI (gnN σ p q c))), (4, .int (nI (ld_in σ p))), (5, .int (nI (ld_in σ q))), (6, .int (nI (c + 1)))]) [0, 1, 2, 3, 4, 5, 6] rfl ?_
                      have hst := show (fo (bst (rnc σ p q) (fun t => chP σ p q t)) none (ld_u σ p q) (c + 1)) = some c from (if_pos hsb).trans (by rw [eo]; exact (if_pos ⟨(tot_0 hW).mpr h75, by omega⟩).trans (if_pos ((rnc_lt hW p q c bb).mpr (by omega))))
                      have ih2 := ih _ ⟨h1.1.tr ((fr3.up (k := 6) (v := nI (gv σ p c)) (Or.inl rfl)).tr (fr3.up (k := 7) (v := nI (gv σ q c)) (Or.inr (Or.inl rfl)))), by rw [hst]; exact ⟨by rw [up2_nk (by decide), up2_same], up2_same _ _ _ _⟩⟩
                      rw [hst] at ih2
                      exact ih2
                    · refine zV_iload dX7_findChange_171 rfl 11 rfl ?_
                      refine zV_iload_n dX7_findChange_173 rfl 3 rfl rfl ?_
                      refine zN_icmp_ne (tgt := 202) dX7_findChange_174 rfl rfl (by omega) (by omega) (fun h174 => ?_) (fun h174 => ?_)
                      · refine zV_iinc (y := (nI (c + 1))) (lv' := [(0, .ref 76), (1, .int (nI p)), (2, .int (nI q)), (3, .int (nI (gnN σ p q bb))), (4, .int (nI (ld_in σ p))), (5, .int (nI (ld_in σ q))), (6, .int (nI (c + 1))), (7, .int (nI (gv σ p c))), (8, .int (nI (gv σ q c))), (9, .int ((nI (ld_sumP σ (gv σ q c) p)) - (nI (ld_sum σ (gv σ p c))))), (10, .int ((nI (ld_sumP σ (gv σ p c) q)) - (nI (ld_sum σ (gv σ q c))))), (11, .int (nI (gnN σ p q c))), (12, .int (nI 1))]) dX7_findChange_202 rfl 6 rfl (nI_1 _) (by decide) rfl ?_
                        refine zV_goto (tgt := 29) dX7_findChange_205 rfl ?_
                        refine zV_keep (lv' := [(0, .ref 76), (1, .int (nI p)), (2, .int (nI q)), (3, .int (nI (gnN σ p q bb))), (4, .int (nI (ld_in σ p))), (5, .int (nI (ld_in σ q))), (6, .int (nI (c + 1)))]) [0, 1, 2, 3, 4, 5, 6] rfl ?_
                        have hst := show (fo (bst (rnc σ p q) (fun t => chP σ p q t)) none (ld_u σ p q) (c + 1)) = some bb from (if_pos hsb).trans (by rw [eo]; exact bst_keep (fun z => by have z2 := (rnc_lt hW p q c bb).mp z; omega))
                        have ih2 := ih I1 ⟨h1.1, by rw [hst]; exact hfl⟩
                        rw [hst] at ih2
                        exact ih2
                      · refine zV_iload dX7_findChange_177 rfl 11 rfl ?_
                        refine zN_if_le (tgt := 202) dX7_findChange_179 rfl rfl (by omega) (fun z => absurd z (by omega)) (fun _ => ?_)
                        refine zV_iload dX7_findChange_182 rfl 12 rfl ?_
                        refine zN_if_eq (tgt := 202) dX7_findChange_184 rfl rfl (by decide) (fun z => absurd z (by decide)) (fun _ => ?_)
                        refine zV_iload dX7_findChange_187 rfl 11 rfl ?_
                        refine zV_istore_n (lv' := [(0, .ref 76), (1, .int (nI p)), (2, .int (nI q)), (3, .int (nI (gnN σ p q c))), (4, .int (nI (ld_in σ p))), (5, .int (nI (ld_in σ q))), (6, .int (nI c)), (7, .int (nI (gv σ p c))), (8, .int (nI (gv σ q c))), (9, .int ((nI (ld_sumP σ (gv σ q c) p)) - (nI (ld_sum σ (gv σ p c))))), (10, .int ((nI (ld_sumP σ (gv σ p c) q)) - (nI (ld_sum σ (gv σ q c))))), (11, .int (nI (gnN σ p q c))), (12, .int (nI 1))]) dX7_findChange_189 rfl rfl (by decide) rfl ?_
                        refine zV_aload_n dX7_findChange_190 rfl 0 rfl rfl ?_
                        refine zV_iload dX7_findChange_191 rfl 7 rfl ?_
                        refine zV_puti 6 dX7_findChange_193 rfl fl_RX7_179 rfl (by decide) rfl rfl rfl ?_
                        refine zV_aload_n dX7_findChange_196 rfl 0 rfl rfl ?_
                        refine zV_iload dX7_findChange_197 rfl 8 rfl ?_
                        refine zV_puti 7 dX7_findChange_199 rfl fl_RX7_189 rfl (by decide) rfl rfl rfl ?_
                        refine zV_iinc (y := (nI (c + 1))) (lv' := [(0, .ref 76), (1, .int (nI p)), (2, .int (nI q)), (3, .int (nI (gnN σ p q c))), (4, .int (nI (ld_in σ p))), (5, .int (nI (ld_in σ q))), (6, .int (nI (c + 1))), (7, .int (nI (gv σ p c))), (8, .int (nI (gv σ q c))), (9, .int ((nI (ld_sumP σ (gv σ q c) p)) - (nI (ld_sum σ (gv σ p c))))), (10, .int ((nI (ld_sumP σ (gv σ p c) q)) - (nI (ld_sum σ (gv σ q c))))), (11, .int (nI (gnN σ p q c))), (12, .int (nI 1))]) dX7_findChange_202 rfl 6 rfl (nI_1 _) (by decide) rfl ?_
                        refine zV_goto (tgt := 29) dX7_findChange_205 rfl ?_
                        refine zV_keep (lv' := [(0, .ref 76), (1, .int (nI p)), (2, .int (nI q)), (3, .int (nI (gnN σ p q c))), (4, .int (nI (ld_in σ p))), (5, .int (nI (ld_in σ q))), (6, .int (nI (c + 1)))]) [0, 1, 2, 3, 4, 5, 6] rfl ?_
                        have hst := show (fo (bst (rnc σ p q) (fun t => chP σ p q t)) none (ld_u σ p q) (c + 1)) = some c from (if_pos hsb).trans (by rw [eo]; exact (if_pos ⟨(tot_0 hW).mpr h75, by omega⟩).trans (if_pos ((rnc_lt hW p q c bb).mpr (by omega))))
                        have ih2 := ih _ ⟨h1.1.tr ((fr3.up (k := 6) (v := nI (gv σ p c)) (Or.inl rfl)).tr (fr3.up (k := 7) (v := nI (gv σ q c)) (Or.inr (Or.inl rfl)))), by rw [hst]; exact ⟨by rw [up2_nk (by decide), up2_same], up2_same _ _ _ _⟩⟩
                        rw [hst] at ih2
                        exact ih2
          · skip
            refine zV_iload dX7_findChange_110 rfl 9 rfl ?_
            refine zV_if_lt (tgt := 120) dX7_findChange_112 rfl rfl  (fun h112 => ?_) (fun h112 => ?_)
            · skip
              refine zV_iconst (v := (nI 0)) dX7_findChange_120 rfl rfl ?_
              refine zV_goto (tgt := 129) dX7_findChange_121 rfl ?_
              rw [mg_0 hW (Or.inl h112)] at k129
              exact k129
            · skip
              refine zV_iload dX7_findChange_115 rfl 10 rfl ?_
              refine zV_if_ge (tgt := 124) dX7_findChange_117 rfl rfl  (fun h117 => ?_) (fun h117 => ?_)
              · refine zV_iload dX7_findChange_124 rfl 9 rfl ?_
                refine zV_iload dX7_findChange_126 rfl 10 rfl ?_
                refine zA_iadd (z := (nI (gnN σ p q c))) dX7_findChange_128 rfl  (mg_v hW h112 (Int32.not_lt.mpr h117)) ?_
                exact k129
              · refine zV_iconst (v := (nI 0)) dX7_findChange_120 rfl rfl ?_
                refine zV_goto (tgt := 129) dX7_findChange_121 rfl ?_
                rw [mg_0 hW (Or.inr (Int32.not_le.mp h117))] at k129
                exact k129
  have h0 := hgo 1 (by omega) (up2 (up2 I 76 6 (nI 0)) 76 7 (nI 0)) ⟨(fr3.up (k := 6) (v := nI 0) (Or.inl rfl)).tr (fr3.up (k := 7) (v := nI 0) (Or.inr (Or.inl rfl))), by rw [chg_1]; exact ⟨by rw [up2_nk (by decide), up2_same], up2_same _ _ _ _⟩⟩
  rw [chg_1] at h0
  exact h0
