/-! THE LAW: its loop, and its start -/
def QL : Option Value → mM → Prop := fun r _ => r = some (.int 1)
set_option maxRecDepth 100000 in
theorem law_step {G : mG} {I : Nat → Nat → Int32} {J : Nat → Nat → Int64} {t c B : Nat} {S : aS} {Q : Option Value → mM → Prop} (hC : InvC I S) (hM : InvM I S) (hw : wfS B S) (hB : B + 242 < 1000000) (hL : G.2.2.2.2.1 ≤ 100000) (hc : 6 * c + 5 < G.2.2.2.2.1) (k : ∀ I' J' t' S', InvC I' S' → InvM I' S' → wfS (B + 242) S' → zV G (eL_law room_1) (90, 5102) 1788 [(0, .ref 1301), (1, .ref 0), (2, .ref 76), (3, .int (nI (6 * c)))] [] (mm I' J' t') Q) : zV G (eL_law room_1) (90, 5102) 27 [(0, .ref 1301), (1, .ref 0), (2, .ref 76), (3, .int (nI (6 * c)))] [] (mm I J t) Q := by
  refine zV_aload_n dL_law_27 rfl 0 rfl rfl ?_
  refine zV_iload_n dL_law_28 rfl 3 rfl rfl ?_
  refine zV_script (6 * c) dL_law_29 rfl rfl (by omega) hL ?_
  refine zV_bipush (v := (nI 63)) dL_law_30 rfl rfl ?_
  refine zA_iand (z := (G.2.2.2.2.2 (6 * c) &&& nI 63)) dL_law_32 rfl  (rfl) ?_
  refine zX_tbl (lo' := 0) (hi' := 49) (td := 1788) dL_law_33 rfl rfl (by decide) rfl (fun _ => ?_) (fun i hi1 hi2 h33 => ?_)
  · exact k _ _ _ _ hC hM (hw.up (by omega) hB)
  · clear h33
    rcases (show i = 0 ∨ i = 1 ∨ i = 2 ∨ i = 3 ∨ i = 4 ∨ i = 5 ∨ i = 6 ∨ i = 7 ∨ i = 8 ∨ i = 9 ∨ i = 10 ∨ i = 11 ∨ i = 12 ∨ i = 13 ∨ i = 14 ∨ i = 15 ∨ i = 16 ∨ i = 17 ∨ i = 18 ∨ i = 19 ∨ i = 20 ∨ i = 21 ∨ i = 22 ∨ i = 23 ∨ i = 24 ∨ i = 25 ∨ i = 26 ∨ i = 27 ∨ i = 28 ∨ i = 29 ∨ i = 30 ∨ i = 31 ∨ i = 32 ∨ i = 33 ∨ i = 34 ∨ i = 35 ∨ i = 36 ∨ i = 37 ∨ i = 38 ∨ i = 39 ∨ i = 40 ∨ i = 41 ∨ i = 42 ∨ i = 43 ∨ i = 44 ∨ i = 45 ∨ i = 46 ∨ i = 47 ∨ i = 48 ∨ i = 49 by omega) with rfl | rfl | rfl | rfl | rfl | rfl | rfl | rfl | rfl | rfl | rfl | rfl | rfl | rfl | rfl | rfl | rfl | rfl | rfl | rfl | rfl | rfl | rfl | rfl | rfl | rfl | rfl | rfl | rfl | rfl | rfl | rfl | rfl | rfl | rfl | rfl | rfl | rfl | rfl | rfl | rfl | rfl | rfl | rfl | rfl | rfl | rfl | rfl | rfl | rfl
    · exact ⟨_, 248, rfl, rfl, law_coin hC hM hw hB hL hc k⟩
    · exact ⟨_, 291, rfl, rfl, law_of hC hM hw hB hL hc k⟩
    · exact ⟨_, 324, rfl, rfl, law_change hC hM hw hB hL hc k⟩
    · exact ⟨_, 367, rfl, rfl, law_turn hC hM hw hB hL hc k⟩
    · exact ⟨_, 390, rfl, rfl, law_purse hC hM hw hB hL hc k⟩
    · exact ⟨_, 423, rfl, rfl, law_sum hC hM hw hB hL hc k⟩
    · exact ⟨_, 446, rfl, rfl, law_pay hC hM hw hB hL hc k⟩
    · exact ⟨_, 489, rfl, rfl, law_there hC hM hw hB hL hc k⟩
    · exact ⟨_, 522, rfl, rfl, law_can hC hM hw hB hL hc k⟩
    · exact ⟨_, 555, rfl, rfl, law_with hC hM hw hB hL hc k⟩
    · exact ⟨_, 588, rfl, rfl, law_sums hC hM hw hB hL hc k⟩
    · exact ⟨_, 611, rfl, rfl, law_cannot hC hM hw hB hL hc k⟩
    · exact ⟨_, 634, rfl, rfl, law_cost hC hM hw hB hL hc k⟩
    · exact ⟨_, 677, rfl, rfl, law_given hC hM hw hB hL hc k⟩
    · exact ⟨_, 720, rfl, rfl, law_back hC hM hw hB hL hc k⟩
    · exact ⟨_, 763, rfl, rfl, law_buy hC hM hw hB hL hc k⟩
    · exact ⟨_, 806, rfl, rfl, law_fewest hC hM hw hB hL hc k⟩
    · exact ⟨_, 849, rfl, rfl, law_dearth hC hM hw hB hL hc k⟩
    · exact ⟨_, 882, rfl, rfl, law_gain hC hM hw hB hL hc k⟩
    · exact ⟨_, 915, rfl, rfl, law_lot hC hM hw hB hL hc k⟩
    · exact ⟨_, 948, rfl, rfl, law_deal hC hM hw hB hL hc k⟩
    · exact ⟨_, 981, rfl, rfl, law_deals hC hM hw hB hL hc k⟩
    · exact ⟨_, 1014, rfl, rfl, law_partner hC hM hw hB hL hc k⟩
    · exact ⟨_, 1037, rfl, rfl, law_round hC hM hw hB hL hc k⟩
    · exact ⟨_, 1070, rfl, rfl, law_flip hC hM hw hB hL hc k⟩
    · exact ⟨_, 1103, rfl, rfl, law_highest hC hM hw hB hL hc k⟩
    · exact ⟨_, 1126, rfl, rfl, law_wrong hC hM hw hB hL hc k⟩
    · exact ⟨_, 1139, rfl, rfl, law_ways hC hM hw hB hL hc k⟩
    · exact ⟨_, 1172, rfl, rfl, law_kindFor hC hM hw hB hL hc k⟩
    · exact ⟨_, 1195, rfl, rfl, law_days hC hM hw hB hL hc k⟩
    · exact ⟨_, 1218, rfl, rfl, law_ahead hC hM hw hB hL hc k⟩
    · exact ⟨_, 1251, rfl, rfl, law_market hC hM hw hB hL hc k⟩
    · exact ⟨_, 1274, rfl, rfl, law_toss hC hM hw hB hL hc k⟩
    · exact ⟨_, 1307, rfl, rfl, law_seed hC hM hw hB hL hc k⟩
    · exact ⟨_, 1330, rfl, rfl, law_feed hC hM hw hB hL hc k⟩
    · exact ⟨_, 1363, rfl, rfl, law_wipe hC hM hw hB hL hc k⟩
    · exact ⟨_, 1376, rfl, rfl, law_text hC hM hw hB hL hc k⟩
    · exact ⟨_, 1389, rfl, rfl, law_hold hC hM hw hB hL hc k⟩
    · exact ⟨_, 1422, rfl, rfl, law_as hC hM hw hB hL hc k⟩
    · exact ⟨_, 1455, rfl, rfl, law_sheet hC hM hw hB hL hc k⟩
    · exact ⟨_, 1498, rfl, rfl, law_write hC hM hw hB hL hc k⟩
    · exact ⟨_, 1541, rfl, rfl, law_copy hC hM hw hB hL hc k⟩
    · exact ⟨_, 1604, rfl, rfl, law_load hC hM hw hB hL hc k⟩
    · exact ⟨_, 1627, rfl, rfl, law_strike hC hM hw hB hL hc k⟩
    · exact ⟨_, 1660, rfl, rfl, law_judge hC hM hw hB hL hc k⟩
    · exact ⟨_, 1703, rfl, rfl, law_image hC hM hw hB hL hc k⟩
    · exact ⟨_, 1716, rfl, rfl, law_undo hC hM hw hB hL hc k⟩
    · exact ⟨_, 1729, rfl, rfl, law_tear hC hM hw hB hL hc k⟩
    · exact ⟨_, 1742, rfl, rfl, law_count hC hM hw hB hL hc k⟩
    · exact ⟨_, 1765, rfl, rfl, law_status hC hM hw hB hL hc k⟩
theorem law_loop {G : mG} (hL : G.2.2.2.2.1 ≤ 3072) : ∀ c, c ≤ G.2.2.2.2.1 / 6 → ∀ I J t S, InvC I S → InvM I S → wfS (242 * c) S → zV G (eL_law room_1) (90, 5102) 18 [(0, .ref 1301), (1, .ref 0), (2, .ref 76), (3, .int (nI (6 * c)))] [] (mm I J t) QL := by
  have hs : (nI G.2.2.2.2.1 - nI 6).toInt = (G.2.2.2.2.1 : Int) - (6 : Nat) := z_subn (by omega) (by omega)
  refine z_for (fun c => ∀ I J t S, InvC I S → InvM I S → wfS (242 * c) S → zV G (eL_law room_1) (90, 5102) 18 [(0, .ref 1301), (1, .ref 0), (2, .ref 76), (3, .int (nI (6 * c)))] [] (mm I J t) QL) (G.2.2.2.2.1 / 6) ?_ ?_
  · intro I J t S hC hM hw
    refine zV_iload_n dL_law_18 rfl 3 rfl rfl ?_
    refine zV_aload_n dL_law_19 rfl 0 rfl rfl ?_
    refine zV_scriptLen dL_law_20 rfl ?_
    refine zV_bipush (v := (nI 6)) dL_law_21 rfl rfl ?_
    refine zA_isub (z := (nI G.2.2.2.2.1 - nI 6)) dL_law_23 rfl  (rfl) ?_
    have h6 : (nI (6 * (G.2.2.2.2.1 / 6))).toInt = ((6 * (G.2.2.2.2.1 / 6) : Nat) : Int) := nI_toInt (by omega)
    refine zV_icmp_gt (tgt := 1794) dL_law_24 rfl rfl (fun _ => ?_) (fun z => absurd z (fun z => z (by rw [Int32.lt_iff_toInt_lt, hs, h6]; omega)))
    refine zV_iconst (v := (nI 1)) dL_law_1794 rfl rfl ?_
    exact zV_ireturn dL_law_1795 rfl rfl rfl
  · intro c hc ih I J t S hC hM hw
    refine zV_iload_n dL_law_18 rfl 3 rfl rfl ?_
    refine zV_aload_n dL_law_19 rfl 0 rfl rfl ?_
    refine zV_scriptLen dL_law_20 rfl ?_
    refine zV_bipush (v := (nI 6)) dL_law_21 rfl rfl ?_
    refine zA_isub (z := (nI G.2.2.2.2.1 - nI 6)) dL_law_23 rfl  (rfl) ?_
    have h6 : (nI (6 * c)).toInt = ((6 * c : Nat) : Int) := nI_toInt (by omega)
    refine zV_icmp_gt (tgt := 1794) dL_law_24 rfl rfl (fun z => absurd z (by rw [Int32.lt_iff_toInt_lt, hs, h6]; omega)) (fun _ => ?_)
    refine law_step hC hM hw (by omega) (by omega) (by omega) (fun I' J' t' S' hC' hM' hw' => ?_)
    refine zV_iinc (y := (nI (6 * (c + 1)))) (lv' := [(0, .ref 1301), (1, .ref 0), (2, .ref 76), (3, .int (nI (6 * (c + 1))))]) dL_law_1788 rfl 3 rfl (nI_add _ _) (by decide) rfl ?_
    refine zV_goto (tgt := 18) dL_law_1791 rfl ?_
    exact ih _ _ _ _ hC' hM' hw'
def M00 : mM := ([], fun _ _ => 0, fun _ _ => 0, R00)
set_option maxRecDepth 100000 in
theorem law_all {G : mG} (hL : G.2.2.2.2.1 ≤ 3072) : zV G (eL_law room_1) (0, 0) 0 [(0, .ref 1301)] [] M00 QL := by
  have g0 : g_new (sh0.take 0, (fun _ _ => (0 : Int32)), (fun _ _ => (0 : Int64)), R00) := fun i hi k => ⟨rfl, rfl, rfl⟩
  show zV G (eL_law room_1) (0, 0) 0 [(0, .ref 1301)] [] (sh0.take 0, (fun _ _ => 0), (fun _ _ => 0), R00) QL
  refine zV_new (ci := 6) dL_law_0 rfl ⟨tw18, tw19, tw1⟩ rfl (by decide) g0 (by decide) ⟨by decide, by decide⟩ ?_
  show zV G (eL_law room_1) (1, 11) 3 [(0, .ref 1301)] [.ref 0] (sh0.take 1, (fun _ _ => 0), (fun _ _ => 0), R00) QL
  refine zV_dup dL_law_3 rfl rfl ?_
  refine zV_callI (E' := eX6_init (g_rmc 4 75 2893)) (av := []) (st := [.ref 0]) (b := 0) dL_law_4 rfl (k_RL_9 _) rfl ⟨by decide, by decide⟩ ⟨by decide, by decide⟩ (Or.inr (fun r M q => by obtain ⟨_, _, e, _⟩ := q; rw [e]; show (sh0.take 1).length + 75 ≤ (sh0.take 76).length; decide)) rfl (Nat.le_of_ble_eq_true rfl) (n_tc g0) (fun r4 M4 z => ?_)
  obtain ⟨I4, rfl, rfl, gn4, h14, h1k, h3, hz⟩ := z
  show zV G (eL_law room_1) (76, 2904) 7 [(0, .ref 1301)] [.ref 0] (sh0.take 76, I4, (fun _ _ => 0), RTC R00) QL
  refine zV_astore_n (lv' := [(0, .ref 1301), (1, .ref 0)]) dL_law_7 rfl rfl (by decide) rfl ?_
  refine zV_new (ci := 7) dL_law_8 rfl ⟨tw868, tw869, tw9⟩ rfl (by decide) gn4 (by decide) ⟨by decide, by decide⟩ ?_
  have gn5 := gn_le gn4 (show 76 ≤ 77 by decide)
  show zV G (eL_law room_1) (77, 2929) 11 [(0, .ref 1301), (1, .ref 0)] [.ref 76] (sh0.take 77, I4, (fun _ _ => 0), RTC R00) QL
  refine zV_dup dL_law_11 rfl rfl ?_
  refine zV_callI (E' := eX7_init (g_rmc 1 13 2173)) (av := []) (st := [.ref 76]) (b := 76) dL_law_12 rfl (k_RL_12 _) rfl ⟨by decide, by decide⟩ ⟨by decide, by decide⟩ (Or.inr (fun r M q => by obtain ⟨_, e, _⟩ := q; rw [e]; show (sh0.take 77).length + 13 ≤ (sh0.take 90).length; decide)) rfl (Nat.le_of_ble_eq_true rfl) (n_model gn5) (fun r12 M12 z => ?_)
  obtain ⟨rfl, rfl, _⟩ := z
  have hz76 : ∀ i k, 76 ≤ i → I4 i k = 0 := fun i k hi => (gn4 i (by show (sh0.take 76).length ≤ i; rw [List.length_take]; omega) k).1
  rw [R_fin]
  show zV G (eL_law room_1) (90, 5102) 15 [(0, .ref 1301), (1, .ref 0)] [.ref 76] (mm (IMD I4) (fun _ _ => 0) 42) QL
  refine zV_astore_n (lv' := [(0, .ref 1301), (1, .ref 0), (2, .ref 76)]) dL_law_15 rfl rfl (by decide) rfl ?_
  refine zV_iconst (v := (nI (6 * 0))) dL_law_16 rfl rfl ?_
  refine zV_istore_n (lv' := [(0, .ref 1301), (1, .ref 0), (2, .ref 76), (3, .int (nI (6 * 0)))]) dL_law_17 rfl rfl (by decide) rfl ?_
  exact law_loop hL 0 (Nat.zero_le _) _ _ _ S00 (start_C h14 h1k h3 hz) (start_M hz76) start_W