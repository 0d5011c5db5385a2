/-! EVERY CALL LEAVES A STATE THAT IS WELL FORMED -/
theorem wfSp.mv {σ τ : aL} (h : wfSp σ) (h1 : σ.1 ≤ τ.1) (h2 : τ.2.2.1 = σ.2.2.1) : wfSp τ := fun s hs => by
  rw [h2]
  rcases h s hs with e | ⟨c, hc, e⟩
  · exact Or.inl e
  · exact Or.inr ⟨c, by omega, e⟩
theorem wfS.up {B B' : Nat} {S : aS} (h : wfS B S) (h1 : B ≤ B') (h2 : B' < 1000000) : wfS B' S := ⟨h.1.up h1 h2, h.2.1, fun k => (h.2.2.1 k).up h1 h2, h.2.2.2⟩
theorem wfS.f {B : Nat} {S : aS} (h : wfS B S) (w : Nat) : wfS B (fnd S w).2 := h
theorem wfS.l {B B' : Nat} {S : aS} {σ : aL} (h : wfS B S) (h1 : B ≤ B') (hL : wfL B' σ) (hs : wfSp σ) : wfS B' (st_l S σ) := ⟨hL, h.2.1, fun k => (h.2.2.1 k).up h1 hL.2.2.2, h.2.2.2.1, h.2.2.2.2.1, h.2.2.2.2.2.1, hs, h.2.2.2.2.2.2.2⟩
theorem wfS.t {B n : Nat} {S : aS} {f : Nat → Nat} (h : wfS B S) (hn : n ≤ 120) (hf : ∀ j, f j < 256) : wfS B (st_t S (n, f)) := ⟨h.1, h.2.1, h.2.2.1, hn, hf, h.2.2.2.2.2⟩
theorem wfS.s {B : Nat} {S : aS} {bs zs : Nat → Nat} {ns : Nat → Nat → Int32} (h : wfS B S) (hb : ∀ s, s < 4 → (bs s = 0 ∨ bs s = 8 ∨ bs s = 16 ∨ bs s = 32) ∧ zs s ≤ 40) : wfS B (st_s S bs zs ns) := ⟨h.1, h.2.1, h.2.2.1, h.2.2.2.1, h.2.2.2.2.1, hb, h.2.2.2.2.2.2⟩
section WF
variable {B : Nat} {S : aS} {x y z v f n : Int32}
theorem w_of (h : wfS B S) : wfS B (op_of S x y).2 := by unfold op_of; (repeat' split); all_goals first | with_reducible exact h | with_reducible exact h.f _
theorem w_purse (h : wfS B S) : wfS B (op_purse S x y).2 := by unfold op_purse; (repeat' split); all_goals first | with_reducible exact h | with_reducible exact h.f _
theorem w_sum (h : wfS B S) : wfS B (op_sum S x).2 := by unfold op_sum; (repeat' split); all_goals first | with_reducible exact h | with_reducible exact h.f _
theorem w_can (h : wfS B S) : wfS B (op_can S x y).2 := by unfold op_can; (repeat' split); all_goals first | with_reducible exact h | with_reducible exact h.f _
theorem w_with (h : wfS B S) : wfS B (op_with S x y).2 := by unfold op_with; (repeat' split); all_goals first | with_reducible exact h | with_reducible exact h.f _
theorem w_sums (h : wfS B S) : wfS B (op_sums S x).2 := by unfold op_sums; (repeat' split); all_goals first | with_reducible exact h | with_reducible exact h.f _
theorem w_cannot (h : wfS B S) : wfS B (op_cannot S x).2 := by unfold op_cannot; (repeat' split); all_goals first | with_reducible exact h | with_reducible exact h.f _
theorem w_cost (h : wfS B S) : wfS B (op_cost S x y z).2 := by unfold op_cost; (repeat' split); all_goals first | with_reducible exact h | with_reducible exact h.f _
theorem w_given (h : wfS B S) : wfS B (op_given S x y z).2 := by unfold op_given; (repeat' split); all_goals first | with_reducible exact h | with_reducible exact h.f _
theorem w_back (h : wfS B S) : wfS B (op_back S x y z).2 := by unfold op_back; (repeat' split); all_goals first | with_reducible exact h | with_reducible exact h.f _
theorem w_fewest (h : wfS B S) : wfS B (op_fewest S x y z).2 := by unfold op_fewest; (repeat' split); all_goals first | with_reducible exact h | with_reducible exact h.f _
theorem w_dearth (h : wfS B S) : wfS B (op_dearth S x y).2 := by unfold op_dearth; (repeat' split); all_goals first | with_reducible exact h | with_reducible exact h.f _
theorem w_gain (h : wfS B S) : wfS B (op_gain S x y).2 := by unfold op_gain; (repeat' split); all_goals first | with_reducible exact h | with_reducible exact h.f _
theorem w_lot (h : wfS B S) : wfS B (op_lot S x y).2 := by unfold op_lot; (repeat' split); all_goals first | with_reducible exact h | with_reducible exact h.f _
theorem w_deals (h : wfS B S) : wfS B (op_deals S x y).2 := by unfold op_deals; (repeat' split); all_goals first | with_reducible exact h | with_reducible exact h.f _
theorem w_partner (h : wfS B S) : wfS B (op_partner S x).2 := by unfold op_partner; (repeat' split); all_goals first | with_reducible exact h | with_reducible exact h.f _
theorem w_round (h : wfS B S) : wfS B (op_round S x y).2 := by unfold op_round; (repeat' split); all_goals first | with_reducible exact h | with_reducible exact h.f _
theorem w_flip (h : wfS B S) : wfS B (op_flip S x y).2 := by unfold op_flip; (repeat' split); all_goals first | with_reducible exact h | with_reducible exact h.f _
theorem w_highest (h : wfS B S) : wfS B (op_highest S x).2 := by unfold op_highest; (repeat' split); all_goals first | with_reducible exact h | with_reducible exact h.f _
theorem w_wrong (h : wfS B S) : wfS B (op_wrong S).2 := h
theorem w_ways (h : wfS B S) : wfS B (op_ways S x y).2 := by unfold op_ways; (repeat' split); all_goals first | with_reducible exact h | with_reducible exact h.f _
theorem w_kindFor (h : wfS B S) : wfS B (op_kindFor S x).2 := by unfold op_kindFor; (repeat' split); all_goals first | with_reducible exact h | with_reducible exact h.f _
theorem w_ahead (h : wfS B S) : wfS B (op_ahead S x y).2 := by unfold op_ahead; (repeat' split); all_goals first | with_reducible exact h | with_reducible exact h.f _
theorem w_as (h : wfS B S) : wfS B (op_as S x y).2 := by unfold op_as; (repeat' split); all_goals first | with_reducible exact h | with_reducible exact h.f _
theorem w_strike (h : wfS B S) : wfS B (op_strike S x y).2 := by unfold op_strike; (repeat' split); all_goals first | with_reducible exact h | with_reducible exact h.f _
theorem w_judge (h : wfS B S) : wfS B (op_judge S x y z).2 := by unfold op_judge; (repeat' split); all_goals first | with_reducible exact h | with_reducible exact h.f _
theorem w_count (h : wfS B S) : wfS B (op_count S x).2 := by unfold op_count; (repeat' split); all_goals first | with_reducible exact h | with_reducible exact h.f _
theorem w_status (h : wfS B S) : wfS B (op_status S x).2 := by unfold op_status; (repeat' split); all_goals first | with_reducible exact h | with_reducible exact h.f _
theorem w_coin (h : wfS B S) : wfS B (op_coin S x y z).2 := by
  unfold op_coin
  split
  · rename_i h1
    split
    · rename_i h2
      split
      · rename_i h3
        split
        · exact h.f _
        · rename_i h4
          obtain ⟨a, ha, rfl⟩ := (inR_iff (by decide)).mp h1
          obtain ⟨b, hb, rfl⟩ := (inR_iff (by decide)).mp h2
          obtain ⟨c, hc, rfl⟩ := (inR_iff (by decide)).mp h3
          have n10 := h.1.1
          refine h.l (Nat.le_refl _) (wf_add h.1 (by omega) (by rw [tn_nI (by omega)]; omega) (by rw [tn_nI (by omega)]; omega) (by rw [tn_nI (by omega)]; omega)) (h.2.2.2.2.2.2.1.mv (Nat.le_succ _) rfl)
      · exact h.f _
    · exact h.f _
  · exact h.f _
theorem w_change (h : wfS B S) : wfS B (op_change S x y v).2 := by
  unfold op_change
  split
  · rename_i h1
    obtain ⟨c, hc, rfl⟩ := z_has h.1.1 h1
    split
    · rename_i h2
      have n10 := h.1.1
      have w := h.1.2.1 c hc
      refine h.l (Nat.le_refl _) ?_ (h.2.2.2.2.2.2.1.mv (Nat.le_refl _) rfl)
      rw [tn_nI (by omega)]
      refine wf_cset (k := k_set (S.1.2.1 c) (tn y) (tn v)) h.1 ?_ (Nat.le_refl _)
      unfold mostOf at h2
      have key : ∀ m, m ≤ 99 → (0 ≤ v ∧ v ≤ nI m) → tn v ≤ m := fun m hm hv => by
        obtain ⟨a, ha, rfl⟩ := (inR_iff (by omega)).mp hv
        rw [tn_nI (by omega)]
        exact ha
      by_cases e0 : y = nI 0
      · subst e0
        rw [if_pos rfl] at h2
        have := key 6 (by decide) h2
        exact ⟨(show tn v < 7 by omega), w.2⟩
      · rw [if_neg e0] at h2
        by_cases e1 : y = nI 1
        · subst e1
          rw [if_pos rfl] at h2
          have := key 3 (by decide) h2
          exact ⟨w.1, (show tn v < 4 by omega), w.2.2⟩
        · rw [if_neg e1] at h2
          by_cases e2 : y = nI 2
          · subst e2
            rw [if_pos rfl] at h2
            have := key 99 (by decide) h2
            exact ⟨w.1, w.2.1, (show tn v < 100 by omega), w.2.2.2⟩
          · rw [if_neg e2] at h2
            by_cases e3 : y = nI 3
            · subst e3
              rw [if_pos rfl] at h2
              have := key 99 (by decide) h2
              exact ⟨w.1, w.2.1, w.2.2.1, (show tn v < 100 by omega), w.2.2.2.2⟩
            · rw [if_neg e3] at h2
              by_cases e4 : y = nI 4
              · subst e4
                rw [if_pos rfl] at h2
                have := key 1 (by decide) h2
                exact ⟨w.1, w.2.1, w.2.2.1, w.2.2.2.1, (show tn v < 2 by omega), w.2.2.2.2.2⟩
              · rw [if_neg e4] at h2
                exfalso
                have a1 := Int32.le_iff_toInt_le.mp h2.1
                have a2 := Int32.le_iff_toInt_le.mp h2.2
                rw [show (0 : Int32).toInt = 0 from rfl] at a1
                rw [show (-1 : Int32).toInt = -1 from rfl] at a2
                omega
    · exact h.f _
  · exact h.f _
theorem w_turn (h : wfS B S) (hB : B + 2 < 1000000) : wfS (B + 2) (op_turn S x).2 := by
  have hu := h.up (show B ≤ B + 2 by omega) hB
  unfold op_turn
  split
  · rename_i h1
    obtain ⟨c, hc, rfl⟩ := z_has h.1.1 h1
    have n10 := h.1.1
    refine h.l (by omega) ?_ (h.2.2.2.2.2.2.1.mv (Nat.le_refl _) rfl)
    rw [tn_nI (by omega)]
    exact wf_cset h.1 (wf_turn (h.1.2.1 c hc) hB) (by omega)
  · exact hu.f _
theorem w_pay (h : wfS B S) (hB : B + 2 < 1000000) : wfS (B + 2) (op_pay S x y z).2 := by
  have hu := h.up (show B ≤ B + 2 by omega) hB
  unfold op_pay
  split
  · rename_i h1
    obtain ⟨p, q, hp, hq, hpq, rfl, rfl⟩ := z_two h1
    split
    · split
      · exact h.l (by omega) (wf_payA h.1 (by rw [tn_nI (by omega)]; exact hq) hB) (h.2.2.2.2.2.2.1.mv (Nat.le_refl _) rfl)
      · exact hu.f _
    · exact hu.f _
  · exact hu.f _
theorem w_there (h : wfS B S) (hB : B + 4 < 1000000) : wfS (B + 4) (op_there S x y).2 := by
  have hu := h.up (show B ≤ B + 4 by omega) hB
  unfold op_there
  split
  · rename_i h1
    obtain ⟨p, q, hp, hq, hpq, rfl, rfl⟩ := z_two h1
    exact h.l (by omega) (wf_payA (wf_payA h.1 (by rw [tn_nI (by omega)]; exact hq) (by omega)) (by rw [tn_nI (by omega)]; exact hp) hB) (h.2.2.2.2.2.2.1.mv (Nat.le_refl _) rfl)
  · exact hu.f _
theorem w_buy (h : wfS B S) (hB : B + 4 < 1000000) : wfS (B + 4) (op_buy S x y z).2 := by
  have hu := h.up (show B ≤ B + 4 by omega) hB
  unfold op_buy
  split
  · rename_i h1
    obtain ⟨p, q, hp, hq, hpq, rfl, rfl⟩ := z_two h1
    split
    · split
      · exact hu.f _
      · exact h.l (by omega) (wf_swap h.1 (by rw [tn_nI (by omega)]; exact hp) (by rw [tn_nI (by omega)]; exact hq) hB) (h.2.2.2.2.2.2.1.mv (Nat.le_refl _) rfl)
    · exact hu.f _
  · exact hu.f _
theorem w_deal (h : wfS B S) (hB : B + 4 < 1000000) : wfS (B + 4) (op_deal S x y).2 := by
  have hu := h.up (show B ≤ B + 4 by omega) hB
  unfold op_deal
  split
  · rename_i h1
    obtain ⟨p, q, hp, hq, hpq, rfl, rfl⟩ := z_two h1
    split
    · exact hu.f _
    · exact h.l (by omega) (wf_swap h.1 (by rw [tn_nI (by omega)]; exact hp) (by rw [tn_nI (by omega)]; exact hq) hB) (h.2.2.2.2.2.2.1.mv (Nat.le_refl _) rfl)
  · exact hu.f _
theorem ld_days_sp (σ : aL) : ∀ i, (ld_days σ i).2.2.1 = σ.2.2.1
  | 0 => rfl
  | i + 1 => by
    show (ld_d1 (ld_days σ i)).2.2.1 = σ.2.2.1
    unfold ld_d1
    split <;> exact ld_days_sp σ i
theorem w_days (h : wfS B S) (hB : B + 120 < 1000000) : wfS (B + 120) (op_days S x).2 := by
  have hu := h.up (show B ≤ B + 120 by omega) hB
  unfold op_days
  split
  · rename_i h1
    obtain ⟨a, h2, h3, rfl⟩ := z_rng (by decide) (by decide) h1
    split
    · rename_i h4
      rw [tn_nI (by omega)] at h4
      have w := wf_days h.1 a (by omega) h4
      refine h.l (by omega) (by rw [tn_nI (by omega)]; exact w.up (by omega) hB) (h.2.2.2.2.2.2.1.mv (by rw [ld_days_n]; exact Nat.le_refl _) (ld_days_sp _ _))
    · exact hu.f _
  · exact hu.f _
theorem ld_mkz_sp (σ : aL) (c q : Nat) (w : Int32) : (ld_mkz σ c q w).2.2.1 = σ.2.2.1 := by
  unfold ld_mkz
  split <;> rfl
theorem ld_mks_sp (σ : aL) : ∀ i, (ld_mks σ i).2.2.1 = σ.2.2.1
  | 0 => rfl
  | i + 1 => (ld_mkz_sp (ld_mks σ i) _ _ _).trans (ld_mks_sp σ i)
theorem w_market (h : wfS B S) (hB : B + 24 < 1000000) : wfS (B + 24) (op_market S x).2 := by
  have hu := h.up (show B ≤ B + 24 by omega) hB
  unfold op_market
  split
  · rename_i h1
    obtain ⟨a, h2, h3, rfl⟩ := z_rng (by decide) (by decide) h1
    split
    · exact hu.f _
    · rename_i h4
      have w := wf_mks h.1 (by omega) a (by omega)
      exact h.l (by omega) (by rw [tn_nI (by omega)]; exact w.up (by omega) hB) (h.2.2.2.2.2.2.1.mv (by rw [ld_mks_n]; exact Nat.le_refl _) (ld_mks_sp _ _))
  · exact hu.f _
theorem wfSp.dr {σ : aL} {w : Int32} (h : wfSp σ) : wfSp (ld_z σ w) := h
theorem w_toss (h : wfS B S) : wfS B (op_toss S x y).2 := by
  unfold op_toss
  split
  · split
    · exact h.l (Nat.le_refl _) (wf_z h.1) (wfSp.dr h.2.2.2.2.2.2.1)
    · exact h.f _
  · exact h.f _
theorem w_seed (h : wfS B S) : wfS B (op_seed S x).2 := h.l (Nat.le_refl _) (wf_z h.1) (wfSp.dr h.2.2.2.2.2.2.1)
theorem w_wipe (h : wfS B S) : wfS B (op_wipe S).2 := h.t (by decide) h.2.2.2.2.1
theorem w_hold (h : wfS B S) : wfS B (op_hold S x y).2 := by
  unfold op_hold
  have key : (y = -1 ∨ ∃ c, c < S.1.1 ∧ y = nI c) → wfS B (st_l S (ld_spot S.1 (tn x) y)) := fun hy => h.l (Nat.le_refl _) ⟨h.1.1, h.1.2.1, h.1.2.2.1, h.1.2.2.2⟩ (fun s hs => by
    show (if s = tn x then y else S.1.2.2.1 s) = -1 ∨ ∃ c, c < S.1.1 ∧ (if s = tn x then y else S.1.2.2.1 s) = nI c
    by_cases e : s = tn x
    · rw [if_pos e]; exact hy
    · rw [if_neg e]; exact h.2.2.2.2.2.2.1 s hs)
  split
  · split
    · rename_i e
      exact key (Or.inl e)
    · split
      · rename_i h3
        exact key (Or.inr (z_has h.1.1 h3))
      · exact h.f _
  · exact h.f _
theorem w_image (h : wfS B S) : wfS B (op_image S).2 := ⟨h.1, Nat.le_refl 1, fun _ => h.1, h.2.2.2.1, h.2.2.2.2.1, h.2.2.2.2.2.1, h.2.2.2.2.2.2.1, fun _ => h.2.2.2.2.2.2.1⟩
theorem w_tear (h : wfS B S) : wfS B (op_tear S).2 := ⟨h.1, Nat.zero_le _, fun z => absurd z (show ¬ (0 : Nat) = 1 by decide), h.2.2.2.1, h.2.2.2.2.1, h.2.2.2.2.2.1, h.2.2.2.2.2.2.1, fun z => absurd z (show ¬ (0 : Nat) = 1 by decide)⟩
theorem w_undo (h : wfS B S) : wfS B (op_undo S).2 := by
  unfold op_undo
  split
  · exact h.f _
  · rename_i h0
    have k1 : S.2.1 = 1 := by have := h.2.1; omega
    exact h.l (Nat.le_refl _) (h.2.2.1 k1) (h.2.2.2.2.2.2.2 k1)
theorem w_sheet (h : wfS B S) : wfS B (op_sheet S x y z).2 := by
  unfold op_sheet
  split
  · split
    · rename_i hb
      split
      · exact h.f _
      · rename_i hz
        split
        · rename_i h40
          refine h.s (fun s hs => ?_)
          have hz2 : tn z ≤ 40 := by
            obtain ⟨j, hj, rfl⟩ := nI_of hz
            rw [tn_nI hj]
            exact (nI_leI hj (by decide)).mp h40
          show (upN S.2.2.2.2.2.1 (tn x) (tn y) s = 0 ∨ _) ∧ upN S.2.2.2.2.2.2.1 (tn x) (if y = nI 0 then 0 else tn z) s ≤ 40
          unfold upN
          by_cases e : s = tn x
          · simp only [e, if_true]
            refine ⟨?_, by split <;> omega⟩
            rcases hb with rfl | rfl | rfl | rfl
            · exact Or.inl rfl
            · exact Or.inr (Or.inl rfl)
            · exact Or.inr (Or.inr (Or.inl rfl))
            · exact Or.inr (Or.inr (Or.inr rfl))
          · simp only [e, if_false]
            exact h.2.2.2.2.2.1 s hs
        · exact h.f _
    · exact h.f _
  · exact h.f _
theorem w_write (h : wfS B S) : wfS B (op_write S x y v).2 := by
  have hs := h.2.2.2.2.2.1
  unfold op_write
  repeat' split
  all_goals first | with_reducible exact h.f _ | with_reducible exact h.s hs
theorem w_copy (h : wfS B S) : wfS B (op_copy S x f y v n).2 := by
  have hs := h.2.2.2.2.2.1
  unfold op_copy
  repeat' split
  all_goals first | with_reducible exact h.f _ | with_reducible exact h.s hs
theorem w_load (h : wfS B S) : wfS B (op_load S x).2 := by
  unfold op_load
  split
  · split
    · exact h.f _
    · refine h.l (Nat.le_refl _) (wf_lies h.1 (fun i hi => ?_)) (wfSp.mv h.2.2.2.2.2.2.1 (Nat.le_refl _) rfl)
      have h1 := fa_first_no (fun j => decide (¬ inR (S.2.2.2.2.2.2.2 (tn x) j) 1)) _ i hi
      have h2 := of_decide_eq_false h1
      exact Classical.byContradiction h2
  · exact h.f _
theorem rShip_sp {tp : Nat → Nat} {L m : Nat} {k : aT} {σ : aL} : (rShip tp L k σ m).2.2.1 = σ.1 ∧ (rShip tp L k σ m).2.2.2.2.1 = σ.2.2.1 := by
  unfold rShip
  split <;> exact ⟨rfl, rfl⟩
theorem rItem_sp {tp : Nat → Nat} {L : Nat} {k : aT} {σ : aL} : σ.1 ≤ (rItem tp L k σ).2.2.1 ∧ (rItem tp L k σ).2.2.2.2.1 = σ.2.2.1 := by
  unfold rItem
  split
  · unfold rCoin
    split
    · split
      · split
        · split
          · split
            · rw [rShip_sp.1, rShip_sp.2]; exact ⟨Nat.le_succ _, rfl⟩
            · exact ⟨Nat.le_refl _, rfl⟩
          · rw [rShip_sp.1, rShip_sp.2]; exact ⟨Nat.le_succ _, rfl⟩
        · exact ⟨Nat.le_refl _, rfl⟩
      · exact ⟨Nat.le_refl _, rfl⟩
    · exact ⟨Nat.le_refl _, rfl⟩
  · split
    · unfold rPay
      split
      · split
        · split
          · exact ⟨Nat.le_refl _, rfl⟩
          · exact ⟨Nat.le_refl _, rfl⟩
        · exact ⟨Nat.le_refl _, rfl⟩
      · exact ⟨Nat.le_refl _, rfl⟩
    · exact ⟨Nat.le_refl _, rfl⟩
theorem rTx_wf {tp : Nat → Nat} {L : Nat} {σ : aL} (hw : wfL B σ) (hs : wfSp σ) : ∀ i b τ, B + 2 * i < 1000000 → rTx tp L σ i = some (b, τ) → wfL (B + 2 * i) τ ∧ wfSp τ
  | 0, b, τ, _, h => by
    have e := congrArg Prod.snd (Option.some.inj h)
    change σ = τ at e
    subst e
    exact ⟨hw, hs⟩
  | i + 1, b, τ, hB, h => by
    change (match rTx tp L σ i with | none => none | some (b, τ) => if ((rItem tp L (nxt tp L b) τ).1 = true ∧ (rItem tp L (nxt tp L b) τ).2.1.1 = 3) then some ((rItem tp L (nxt tp L b) τ).2.1.2.2.1, (rItem tp L (nxt tp L b) τ).2.2) else none) = some (b, τ) at h
    cases e : rTx tp L σ i with
    | none => rw [e] at h; cases h
    | some q =>
      obtain ⟨b0, τ0⟩ := q
      have ih := rTx_wf hw hs i b0 τ0 (by omega) e
      rw [e] at h
      change (if ((rItem tp L (nxt tp L b0) τ0).1 = true ∧ (rItem tp L (nxt tp L b0) τ0).2.1.1 = 3) then some ((rItem tp L (nxt tp L b0) τ0).2.1.2.2.1, (rItem tp L (nxt tp L b0) τ0).2.2) else none) = some (b, τ) at h
      by_cases hc : (rItem tp L (nxt tp L b0) τ0).1 = true ∧ (rItem tp L (nxt tp L b0) τ0).2.1.1 = 3
      · rw [if_pos hc] at h
        have e1 : (rItem tp L (nxt tp L b0) τ0).2.2 = τ := congrArg Prod.snd (Option.some.inj h)
        have w := rItem_wf (tp := tp) (L := L) (k := nxt tp L b0) ih.1 (by omega)
        have s := rItem_sp (tp := tp) (L := L) (k := nxt tp L b0) (σ := τ0)
        rw [e1] at w s
        rw [show B + 2 * (i + 1) = B + 2 * i + 2 by omega]
        exact ⟨w, ih.2.mv s.1 s.2⟩
      · rw [if_neg hc] at h
        cases h
theorem w_text (h : wfS B S) (hB : B + 242 < 1000000) : wfS (B + 242) (op_text S).2 := by
  have hu := h.up (show B ≤ B + 242 by omega) hB
  cases eo : (rAns S.2.2.2.1.2 S.2.2.2.1.1 S.1).2 with
  | none =>
    have e : (op_text S).2 = st_t S (0, S.2.2.2.1.2) := by
      unfold op_text
      rw [eo]
    rw [e]
    exact hu.t (Nat.zero_le _) h.2.2.2.2.1
  | some τ =>
    have e : (op_text S).2 = st_t (st_l S τ) (0, S.2.2.2.1.2) := by
      unfold op_text
      rw [eo]
    rw [e]
    have key : wfL (B + 242) τ ∧ wfSp τ := by
      cases ex : rTx S.2.2.2.1.2 S.2.2.2.1.1 S.1 (rTn S.2.2.2.1.2 S.2.2.2.1.1 S.1) with
      | none =>
        have e0 : rAns S.2.2.2.1.2 S.2.2.2.1.1 S.1 = (-1, none) := by
          unfold rAns
          rw [ex]
        rw [e0] at eo
        cases eo
      | some q =>
        obtain ⟨b, τ0⟩ := q
        have hn : rTn S.2.2.2.1.2 S.2.2.2.1.1 S.1 ≤ 120 := fa_first_le _ 120
        have w := rTx_wf h.1 h.2.2.2.2.2.2.1 _ b τ0 (by omega) ex
        have w2 := rItem_wf (tp := S.2.2.2.1.2) (L := S.2.2.2.1.1) (k := nxt S.2.2.2.1.2 S.2.2.2.1.1 b) w.1 (by omega)
        have s2 := rItem_sp (tp := S.2.2.2.1.2) (L := S.2.2.2.1.1) (k := nxt S.2.2.2.1.2 S.2.2.2.1.1 b) (σ := τ0)
        by_cases hc : ((rItem S.2.2.2.1.2 S.2.2.2.1.1 (nxt S.2.2.2.1.2 S.2.2.2.1.1 b) τ0).1 = true ∧ (rItem S.2.2.2.1.2 S.2.2.2.1.1 (nxt S.2.2.2.1.2 S.2.2.2.1.1 b) τ0).2.1.1 = 0)
        · have e0 : rAns S.2.2.2.1.2 S.2.2.2.1.1 S.1 = (nI (rTn S.2.2.2.1.2 S.2.2.2.1.1 S.1 + 1), some (rItem S.2.2.2.1.2 S.2.2.2.1.1 (nxt S.2.2.2.1.2 S.2.2.2.1.1 b) τ0).2.2) := by
            unfold rAns
            rw [ex]
            exact if_pos hc
          rw [e0] at eo
          have e1 := Option.some.inj eo
          rw [← e1]
          exact ⟨w2.up (by omega) hB, w.2.mv s2.1 s2.2⟩
        · have e0 : rAns S.2.2.2.1.2 S.2.2.2.1.1 S.1 = (-1 - nI (rItem S.2.2.2.1.2 S.2.2.2.1.1 (nxt S.2.2.2.1.2 S.2.2.2.1.1 b) τ0).2.1.2.1, none) := by
            unfold rAns
            rw [ex]
            exact if_neg hc
          rw [e0] at eo
          cases eo
    exact (h.l (by omega) key.1 key.2).t (Nat.zero_le _) h.2.2.2.2.1
theorem w_feed (h : wfS B S) : wfS B (op_feed S x y).2 := by
  unfold op_feed
  split
  · split
    · rename_i h2
      refine h.t h2 (fun j => ?_)
      unfold ft
      split
      · exact h.2.2.2.2.1 j
      · exact fby_lt _ _
    · exact h.f _
  · exact h.f _
end WF
