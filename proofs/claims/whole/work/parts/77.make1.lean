/-! CONSTRUCTORS of the class -/
theorem up2_id {α : Type} {f : Nat → Nat → α} {i k : Nat} {v : α} (h : f i k = v) : up2 f i k v = f := by
  funext a b
  unfold up2
  by_cases e : a = i
  · by_cases e2 : b = k
    · rw [if_pos e, if_pos e2, e, e2, h]
    · rw [if_pos e, if_neg e2]
  · rw [if_neg e]
def g_rmc (n c s : Nat) : Room := { frames := n, cells := c, slots := s, locals := 60 * n }
theorem gn_app {sh xs : List (Nat × Nat × Nat)} {I : Nat → Nat → Int32} {J : Nat → Nat → Int64} {R : Nat → Nat → Option Nat} (h : g_new (sh, I, J, R)) : g_new (sh ++ xs, I, J, R) := fun i hi k => h i (by
  have h1 : (sh ++ xs).length ≤ i := hi
  rw [List.length_append] at h1
  show sh.length ≤ i
  omega) k
theorem gn_I {sh : List (Nat × Nat × Nat)} {I : Nat → Nat → Int32} {J : Nat → Nat → Int64} {R : Nat → Nat → Option Nat} {q k : Nat} {v : Int32} (h : g_new (sh, I, J, R)) (hq : q < sh.length) : g_new (sh, up2 I q k v, J, R) := fun i hi k' => by
  have h1 : sh.length ≤ i := hi
  refine ⟨?_, (h i hi k').2⟩
  show up2 I q k v i k' = 0
  rw [up2_ni (by omega)]
  exact (h i hi k').1
theorem gn_R {sh : List (Nat × Nat × Nat)} {I : Nat → Nat → Int32} {J : Nat → Nat → Int64} {R : Nat → Nat → Option Nat} {q k : Nat} {v : Option Nat} (h : g_new (sh, I, J, R)) (hq : q < sh.length) : g_new (sh, I, J, up2 R q k v) := fun i hi k' => by
  have h1 : sh.length ≤ i := hi
  refine ⟨(h i hi k').1, (h i hi k').2.1, ?_⟩
  show up2 R q k v i k' = none
  rw [up2_ni (by omega)]
  exact (h i hi k').2.2
theorem gn_le {n m : Nat} {I : Nat → Nat → Int32} {J : Nat → Nat → Int64} {R : Nat → Nat → Option Nat} (h : g_new (sh0.take n, I, J, R)) (hnm : n ≤ m) : g_new (sh0.take m, I, J, R) := fun i hi k => h i (by
  have h1 : (sh0.take m).length ≤ i := hi
  rw [List.length_take] at h1
  show (sh0.take n).length ≤ i
  rw [List.length_take]
  omega) k
theorem gn_at {n : Nat} {I : Nat → Nat → Int32} {J : Nat → Nat → Int64} {R : Nat → Nat → Option Nat} (h : g_new (sh0.take n, I, J, R)) (k : Nat) : I n k = 0 := (h n (by show (sh0.take n).length ≤ n; rw [List.length_take]; omega) k).1
theorem gn_rat {n : Nat} {I : Nat → Nat → Int32} {J : Nat → Nat → Int64} {R : Nat → Nat → Option Nat} (h : g_new (sh0.take n, I, J, R)) (k : Nat) : R n k = none := (h n (by show (sh0.take n).length ≤ n; rw [List.length_take]; omega) k).2.2
theorem gn_M {n N : Nat} {I : Nat → Nat → Int32} {J : Nat → Nat → Int64} {R : Nat → Nat → Option Nat} (h : g_new (sh0.take n, I, J, R)) (hn : n + 1 + N ≤ sh0.length) : g_new (sh0.take (n + 1 + N), I, J, (fun a b => if a = n then (if b < N then some (n + 1 + b) else none) else R a b)) := fun i hi k => by
  have h1 : (sh0.take (n + 1 + N)).length ≤ i := hi
  rw [List.length_take] at h1
  have h2 := h i (by show (sh0.take n).length ≤ i; rw [List.length_take]; omega) k
  refine ⟨h2.1, h2.2.1, ?_⟩
  show (if i = n then _ else R i k) = none
  rw [if_neg (by omega)]
  exact h2.2.2
set_option maxRecDepth 100000 in
theorem n_coin {G : mG} {I : Nat → Nat → Int32} {J : Nat → Nat → Int64} {R : Nat → Nat → Option Nat} {sh : List (Nat × Nat × Nat)} {q : Nat} (hs : sh[q]? = some (0, 0, 6)) (hz : ∀ k, I q k = 0) : zC G yX0_init (eX0_init (g_rmv 1)) [.ref q] (sh, I, J, R) (fun r M => r = none ∧ M = (sh, I, J, R)) := by
  refine zC_of (by decide +kernel) rfl (by decide) (Nat.le_of_ble_eq_true rfl) ?_
  show zV G (eX0_init (g_rmv 1)) (0, 0) 0 [(0, .ref q)] [] (sh, I, J, R) _
  refine zV_aload_n dX0_init_0 rfl 0 rfl rfl ?_
  refine zV_objInit dX0_init_1 rfl ko_RX0_3 (by decide) (by decide) ?_
  refine zV_aload_n dX0_init_4 rfl 0 rfl rfl ?_
  refine zV_iconst (v := (nI 0)) dX0_init_5 rfl rfl ?_
  refine zV_puti 0 dX0_init_6 rfl fl_RX0_9 hs (by decide) rfl rfl rfl ?_
  rw [up2_id (show I q 0 = nI 0 from (hz _))]
  refine zV_aload_n dX0_init_9 rfl 0 rfl rfl ?_
  refine zV_iconst (v := (nI 0)) dX0_init_10 rfl rfl ?_
  refine zV_puti 1 dX0_init_11 rfl fl_RX0_15 hs (by decide) rfl rfl rfl ?_
  rw [up2_id (show I q 1 = nI 0 from (hz _))]
  refine zV_aload_n dX0_init_14 rfl 0 rfl rfl ?_
  refine zV_iconst (v := (nI 0)) dX0_init_15 rfl rfl ?_
  refine zV_puti 2 dX0_init_16 rfl fl_RX0_18 hs (by decide) rfl rfl rfl ?_
  rw [up2_id (show I q 2 = nI 0 from (hz _))]
  refine zV_aload_n dX0_init_19 rfl 0 rfl rfl ?_
  refine zV_iconst (v := (nI 0)) dX0_init_20 rfl rfl ?_
  refine zV_puti 3 dX0_init_21 rfl fl_RX0_21 hs (by decide) rfl rfl rfl ?_
  rw [up2_id (show I q 3 = nI 0 from (hz _))]
  refine zV_aload_n dX0_init_24 rfl 0 rfl rfl ?_
  refine zV_iconst (v := (nI 0)) dX0_init_25 rfl rfl ?_
  refine zV_puti 4 dX0_init_26 rfl fl_RX0_24 hs (by decide) rfl rfl rfl ?_
  rw [up2_id (show I q 4 = nI 0 from (hz _))]
  refine zV_aload_n dX0_init_29 rfl 0 rfl rfl ?_
  refine zV_iconst (v := (nI 0)) dX0_init_30 rfl rfl ?_
  refine zV_puti 5 dX0_init_31 rfl fl_RX0_27 hs (by decide) rfl rfl rfl ?_
  rw [up2_id (show I q 5 = nI 0 from (hz _))]
  exact zV_return dX0_init_34 rfl (⟨rfl, rfl⟩)

set_option maxRecDepth 100000 in
theorem n_sheet0 {G : mG} {I : Nat → Nat → Int32} {J : Nat → Nat → Int64} {R : Nat → Nat → Option Nat} (hz : ∀ k, I 68 k = 0) (hn : g_new (sh0.take 69, I, J, R)) : zC G yX4_init (eX4_init (g_rmc 1 1 40)) [.ref 68] (sh0.take 69, I, J, R) (fun r M => r = none ∧ M = (sh0.take 70, I, J, up2 R 68 0 (some 69))) := by
  refine zC_of (by decide +kernel) rfl (by decide) (Nat.le_of_ble_eq_true rfl) ?_
  show zV G (eX4_init (g_rmc 1 1 40)) (0, 0) 0 [(0, .ref 68)] [] (sh0.take 69, I, J, R) _
  refine zV_aload_n dX4_init_0 rfl 0 rfl rfl ?_
  refine zV_objInit dX4_init_1 rfl ko_RX4_3 (by decide) (by decide) ?_
  refine zV_aload_n dX4_init_4 rfl 0 rfl rfl ?_
  refine zV_bipush (v := (nI 40)) dX4_init_5 rfl rfl ?_
  refine zV_newa (t := 0) (N := 40) dX4_init_7 rfl tw73 rfl (by decide) rfl (by decide) hn (by decide) ⟨by decide, by decide⟩ ?_
  have gn70 := gn_le hn (show 69 ≤ 70 by decide)
  show zV G (eX4_init (g_rmc 1 1 40)) (1, 40) 9 [(0, .ref 68)] [.ref 69, .ref 68] (sh0.take 70, I, J, R) _
  refine zV_putF (q' := 69) 0 dX4_init_9 rfl rfl fl_RX4_9 rfl (by decide) rfl (fun _ => rfl) (fun _ => rfl) ?_
  refine zV_aload_n dX4_init_12 rfl 0 rfl rfl ?_
  refine zV_iconst (v := (nI 0)) dX4_init_13 rfl rfl ?_
  refine zV_puti 1 dX4_init_14 rfl fl_RX4_15 rfl (by decide) rfl rfl rfl ?_
  rw [up2_id (show I 68 1 = nI 0 from (hz _))]
  refine zV_aload_n dX4_init_17 rfl 0 rfl rfl ?_
  refine zV_iconst (v := (nI 0)) dX4_init_18 rfl rfl ?_
  refine zV_puti 2 dX4_init_19 rfl fl_RX4_19 rfl (by decide) rfl rfl rfl ?_
  rw [up2_id (show I 68 2 = nI 0 from (hz _))]
  exact zV_return dX4_init_22 rfl (⟨rfl, rfl⟩)

set_option maxRecDepth 100000 in
theorem n_sheet1 {G : mG} {I : Nat → Nat → Int32} {J : Nat → Nat → Int64} {R : Nat → Nat → Option Nat} (hz : ∀ k, I 70 k = 0) (hn : g_new (sh0.take 71, I, J, R)) : zC G yX4_init (eX4_init (g_rmc 1 1 40)) [.ref 70] (sh0.take 71, I, J, R) (fun r M => r = none ∧ M = (sh0.take 72, I, J, up2 R 70 0 (some 71))) := by
  refine zC_of (by decide +kernel) rfl (by decide) (Nat.le_of_ble_eq_true rfl) ?_
  show zV G (eX4_init (g_rmc 1 1 40)) (0, 0) 0 [(0, .ref 70)] [] (sh0.take 71, I, J, R) _
  refine zV_aload_n dX4_init_0 rfl 0 rfl rfl ?_
  refine zV_objInit dX4_init_1 rfl ko_RX4_3 (by decide) (by decide) ?_
  refine zV_aload_n dX4_init_4 rfl 0 rfl rfl ?_
  refine zV_bipush (v := (nI 40)) dX4_init_5 rfl rfl ?_
  refine zV_newa (t := 0) (N := 40) dX4_init_7 rfl tw73 rfl (by decide) rfl (by decide) hn (by decide) ⟨by decide, by decide⟩ ?_
  have gn72 := gn_le hn (show 71 ≤ 72 by decide)
  show zV G (eX4_init (g_rmc 1 1 40)) (1, 40) 9 [(0, .ref 70)] [.ref 71, .ref 70] (sh0.take 72, I, J, R) _
  refine zV_putF (q' := 71) 0 dX4_init_9 rfl rfl fl_RX4_9 rfl (by decide) rfl (fun _ => rfl) (fun _ => rfl) ?_
  refine zV_aload_n dX4_init_12 rfl 0 rfl rfl ?_
  refine zV_iconst (v := (nI 0)) dX4_init_13 rfl rfl ?_
  refine zV_puti 1 dX4_init_14 rfl fl_RX4_15 rfl (by decide) rfl rfl rfl ?_
  rw [up2_id (show I 70 1 = nI 0 from (hz _))]
  refine zV_aload_n dX4_init_17 rfl 0 rfl rfl ?_
  refine zV_iconst (v := (nI 0)) dX4_init_18 rfl rfl ?_
  refine zV_puti 2 dX4_init_19 rfl fl_RX4_19 rfl (by decide) rfl rfl rfl ?_
  rw [up2_id (show I 70 2 = nI 0 from (hz _))]
  exact zV_return dX4_init_22 rfl (⟨rfl, rfl⟩)

set_option maxRecDepth 100000 in
theorem n_sheet2 {G : mG} {I : Nat → Nat → Int32} {J : Nat → Nat → Int64} {R : Nat → Nat → Option Nat} (hz : ∀ k, I 72 k = 0) (hn : g_new (sh0.take 73, I, J, R)) : zC G yX4_init (eX4_init (g_rmc 1 1 40)) [.ref 72] (sh0.take 73, I, J, R) (fun r M => r = none ∧ M = (sh0.take 74, I, J, up2 R 72 0 (some 73))) := by
  refine zC_of (by decide +kernel) rfl (by decide) (Nat.le_of_ble_eq_true rfl) ?_
  show zV G (eX4_init (g_rmc 1 1 40)) (0, 0) 0 [(0, .ref 72)] [] (sh0.take 73, I, J, R) _
  refine zV_aload_n dX4_init_0 rfl 0 rfl rfl ?_
  refine zV_objInit dX4_init_1 rfl ko_RX4_3 (by decide) (by decide) ?_
  refine zV_aload_n dX4_init_4 rfl 0 rfl rfl ?_
  refine zV_bipush (v := (nI 40)) dX4_init_5 rfl rfl ?_
  refine zV_newa (t := 0) (N := 40) dX4_init_7 rfl tw73 rfl (by decide) rfl (by decide) hn (by decide) ⟨by decide, by decide⟩ ?_
  have gn74 := gn_le hn (show 73 ≤ 74 by decide)
  show zV G (eX4_init (g_rmc 1 1 40)) (1, 40) 9 [(0, .ref 72)] [.ref 73, .ref 72] (sh0.take 74, I, J, R) _
  refine zV_putF (q' := 73) 0 dX4_init_9 rfl rfl fl_RX4_9 rfl (by decide) rfl (fun _ => rfl) (fun _ => rfl) ?_
  refine zV_aload_n dX4_init_12 rfl 0 rfl rfl ?_
  refine zV_iconst (v := (nI 0)) dX4_init_13 rfl rfl ?_
  refine zV_puti 1 dX4_init_14 rfl fl_RX4_15 rfl (by decide) rfl rfl rfl ?_
  rw [up2_id (show I 72 1 = nI 0 from (hz _))]
  refine zV_aload_n dX4_init_17 rfl 0 rfl rfl ?_
  refine zV_iconst (v := (nI 0)) dX4_init_18 rfl rfl ?_
  refine zV_puti 2 dX4_init_19 rfl fl_RX4_19 rfl (by decide) rfl rfl rfl ?_
  rw [up2_id (show I 72 2 = nI 0 from (hz _))]
  exact zV_return dX4_init_22 rfl (⟨rfl, rfl⟩)

set_option maxRecDepth 100000 in
theorem n_sheet3 {G : mG} {I : Nat → Nat → Int32} {J : Nat → Nat → Int64} {R : Nat → Nat → Option Nat} (hz : ∀ k, I 74 k = 0) (hn : g_new (sh0.take 75, I, J, R)) : zC G yX4_init (eX4_init (g_rmc 1 1 40)) [.ref 74] (sh0.take 75, I, J, R) (fun r M => r = none ∧ M = (sh0.take 76, I, J, up2 R 74 0 (some 75))) := by
  refine zC_of (by decide +kernel) rfl (by decide) (Nat.le_of_ble_eq_true rfl) ?_
  show zV G (eX4_init (g_rmc 1 1 40)) (0, 0) 0 [(0, .ref 74)] [] (sh0.take 75, I, J, R) _
  refine zV_aload_n dX4_init_0 rfl 0 rfl rfl ?_
  refine zV_objInit dX4_init_1 rfl ko_RX4_3 (by decide) (by decide) ?_
  refine zV_aload_n dX4_init_4 rfl 0 rfl rfl ?_
  refine zV_bipush (v := (nI 40)) dX4_init_5 rfl rfl ?_
  refine zV_newa (t := 0) (N := 40) dX4_init_7 rfl tw73 rfl (by decide) rfl (by decide) hn (by decide) ⟨by decide, by decide⟩ ?_
  have gn76 := gn_le hn (show 75 ≤ 76 by decide)
  show zV G (eX4_init (g_rmc 1 1 40)) (1, 40) 9 [(0, .ref 74)] [.ref 75, .ref 74] (sh0.take 76, I, J, R) _
  refine zV_putF (q' := 75) 0 dX4_init_9 rfl rfl fl_RX4_9 rfl (by decide) rfl (fun _ => rfl) (fun _ => rfl) ?_
  refine zV_aload_n dX4_init_12 rfl 0 rfl rfl ?_
  refine zV_iconst (v := (nI 0)) dX4_init_13 rfl rfl ?_
  refine zV_puti 1 dX4_init_14 rfl fl_RX4_15 rfl (by decide) rfl rfl rfl ?_
  rw [up2_id (show I 74 1 = nI 0 from (hz _))]
  refine zV_aload_n dX4_init_17 rfl 0 rfl rfl ?_
  refine zV_iconst (v := (nI 0)) dX4_init_18 rfl rfl ?_
  refine zV_puti 2 dX4_init_19 rfl fl_RX4_19 rfl (by decide) rfl rfl rfl ?_
  rw [up2_id (show I 74 2 = nI 0 from (hz _))]
  exact zV_return dX4_init_22 rfl (⟨rfl, rfl⟩)

set_option maxRecDepth 100000 in
theorem n_reader {G : mG} {I : Nat → Nat → Int32} {J : Nat → Nat → Int64} {R : Nat → Nat → Option Nat} (hz : ∀ k, I 41 k = 0) (hn : g_new (sh0.take 42, I, J, R)) : zC G yX3_init (eX3_init (g_rmc 1 1 0)) [.ref 41] (sh0.take 42, I, J, R) (fun r M => r = none ∧ M = (sh0.take 43, I, J, up2 R 41 0 (some 42))) := by
  refine zC_of (by decide +kernel) rfl (by decide) (Nat.le_of_ble_eq_true rfl) ?_
  show zV G (eX3_init (g_rmc 1 1 0)) (0, 0) 0 [(0, .ref 41)] [] (sh0.take 42, I, J, R) _
  refine zV_aload_n dX3_init_0 rfl 0 rfl rfl ?_
  refine zV_objInit dX3_init_1 rfl ko_RX3_3 (by decide) (by decide) ?_
  refine zV_aload_n dX3_init_4 rfl 0 rfl rfl ?_
  refine zV_iconst (v := (nI 0)) dX3_init_5 rfl rfl ?_
  refine zV_newa (t := 0) (N := 0) dX3_init_6 rfl tw73 rfl (by decide) rfl (by decide) hn (by decide) ⟨by decide, by decide⟩ ?_
  have gn43 := gn_le hn (show 42 ≤ 43 by decide)
  show zV G (eX3_init (g_rmc 1 1 0)) (1, 0) 8 [(0, .ref 41)] [.ref 42, .ref 41] (sh0.take 43, I, J, R) _
  refine zV_putr (q' := 42) 0 dX3_init_8 rfl fl_RX3_9 rfl (by decide) rfl (fun _ => rfl) (fun _ => rfl) ?_
  refine zV_aload_n dX3_init_11 rfl 0 rfl rfl ?_
  refine zV_iconst (v := (nI 0)) dX3_init_12 rfl rfl ?_
  refine zV_puti 1 dX3_init_13 rfl fl_RX3_15 rfl (by decide) rfl rfl rfl ?_
  rw [up2_id (show I 41 1 = nI 0 from (hz _))]
  refine zV_aload_n dX3_init_16 rfl 0 rfl rfl ?_
  refine zV_iconst (v := (nI 0)) dX3_init_17 rfl rfl ?_
  refine zV_puti 2 dX3_init_18 rfl fl_RX3_19 rfl (by decide) rfl rfl rfl ?_
  rw [up2_id (show I 41 2 = nI 0 from (hz _))]
  refine zV_aload_n dX3_init_21 rfl 0 rfl rfl ?_
  refine zV_iconst (v := (nI 0)) dX3_init_22 rfl rfl ?_
  refine zV_puti 3 dX3_init_23 rfl fl_RX3_22 rfl (by decide) rfl rfl rfl ?_
  rw [up2_id (show I 41 3 = nI 0 from (hz _))]
  refine zV_aload_n dX3_init_26 rfl 0 rfl rfl ?_
  refine zV_iconst (v := (nI 0)) dX3_init_27 rfl rfl ?_
  refine zV_puti 4 dX3_init_28 rfl fl_RX3_25 rfl (by decide) rfl rfl rfl ?_
  rw [up2_id (show I 41 4 = nI 0 from (hz _))]
  refine zV_aload_n dX3_init_31 rfl 0 rfl rfl ?_
  refine zV_iconst (v := (nI 0)) dX3_init_32 rfl rfl ?_
  refine zV_puti 5 dX3_init_33 rfl fl_RX3_28 rfl (by decide) rfl rfl rfl ?_
  rw [up2_id (show I 41 5 = nI 0 from (hz _))]
  exact zV_return dX3_init_36 rfl (⟨rfl, rfl⟩)

set_option maxRecDepth 100000 in
theorem n_trades {G : mG} {I : Nat → Nat → Int32} {J : Nat → Nat → Int64} {R : Nat → Nat → Option Nat} (hz : ∀ k, I 61 k = 0) (hn : g_new (sh0.take 62, I, J, R)) : zC G yX5_init (eX5_init (g_rmc 1 5 2078)) [.ref 61] (sh0.take 62, I, J, R) (fun r M => r = none ∧ M = (sh0.take 67, I, J, up2 (up2 (up2 (up2 (up2 R 61 0 (some 62)) 61 1 (some 63)) 61 3 (some 64)) 61 4 (some 65)) 61 5 (some 66))) := by
  refine zC_of (by decide +kernel) rfl (by decide) (Nat.le_of_ble_eq_true rfl) ?_
  show zV G (eX5_init (g_rmc 1 5 2078)) (0, 0) 0 [(0, .ref 61)] [] (sh0.take 62, I, J, R) _
  refine zV_aload_n dX5_init_0 rfl 0 rfl rfl ?_
  refine zV_objInit dX5_init_1 rfl ko_RX5_3 (by decide) (by decide) ?_
  refine zV_aload_n dX5_init_4 rfl 0 rfl rfl ?_
  refine zV_sipush (v := (nI 1024)) dX5_init_5 rfl rfl ?_
  refine zV_newa (t := 0) (N := 1024) dX5_init_8 rfl tw73 rfl (by decide) rfl (by decide) hn (by decide) ⟨by decide, by decide⟩ ?_
  have gn63 := gn_le hn (show 62 ≤ 63 by decide)
  show zV G (eX5_init (g_rmc 1 5 2078)) (1, 1024) 10 [(0, .ref 61)] [.ref 62, .ref 61] (sh0.take 63, I, J, R) _
  refine zV_putF (q' := 62) 0 dX5_init_10 rfl rfl fl_RX5_9 rfl (by decide) rfl (fun _ => rfl) (fun _ => rfl) ?_
  refine zV_aload_n dX5_init_13 rfl 0 rfl rfl ?_
  refine zV_sipush (v := (nI 1024)) dX5_init_14 rfl rfl ?_
  refine zV_newa (t := 0) (N := 1024) dX5_init_17 rfl tw73 rfl (by decide) rfl (by decide) (gn_R (q := 61) (k := 0) (v := some 62) gn63 (by decide)) (by decide) ⟨by decide, by decide⟩ ?_
  have gn64 := gn_le (gn_R (q := 61) (k := 0) (v := some 62) gn63 (by decide)) (show 63 ≤ 64 by decide)
  show zV G (eX5_init (g_rmc 1 5 2078)) (2, 2048) 19 [(0, .ref 61)] [.ref 63, .ref 61] (sh0.take 64, I, J, (up2 R 61 0 (some 62))) _
  refine zV_putF (q' := 63) 1 dX5_init_19 rfl rfl fl_RX5_15 rfl (by decide) rfl (fun _ => rfl) (fun _ => rfl) ?_
  refine zV_aload_n dX5_init_22 rfl 0 rfl rfl ?_
  refine zV_iconst (v := (nI 0)) dX5_init_23 rfl rfl ?_
  refine zV_puti 2 dX5_init_24 rfl fl_RX5_18 rfl (by decide) rfl rfl rfl ?_
  rw [up2_id (show I 61 2 = nI 0 from (hz _))]
  refine zV_aload_n dX5_init_27 rfl 0 rfl rfl ?_
  refine zV_bipush (v := (nI 10)) dX5_init_28 rfl rfl ?_
  refine zV_newa (t := 0) (N := 10) dX5_init_30 rfl tw73 rfl (by decide) rfl (by decide) (gn_R (q := 61) (k := 1) (v := some 63) gn64 (by decide)) (by decide) ⟨by decide, by decide⟩ ?_
  have gn65 := gn_le (gn_R (q := 61) (k := 1) (v := some 63) gn64 (by decide)) (show 64 ≤ 65 by decide)
  show zV G (eX5_init (g_rmc 1 5 2078)) (3, 2058) 32 [(0, .ref 61)] [.ref 64, .ref 61] (sh0.take 65, I, J, (up2 (up2 R 61 0 (some 62)) 61 1 (some 63))) _
  refine zV_putF (q' := 64) 3 dX5_init_32 rfl rfl fl_RX5_22 rfl (by decide) rfl (fun _ => rfl) (fun _ => rfl) ?_
  refine zV_aload_n dX5_init_35 rfl 0 rfl rfl ?_
  refine zV_bipush (v := (nI 10)) dX5_init_36 rfl rfl ?_
  refine zV_newa (t := 0) (N := 10) dX5_init_38 rfl tw73 rfl (by decide) rfl (by decide) (gn_R (q := 61) (k := 3) (v := some 64) gn65 (by decide)) (by decide) ⟨by decide, by decide⟩ ?_
  have gn66 := gn_le (gn_R (q := 61) (k := 3) (v := some 64) gn65 (by decide)) (show 65 ≤ 66 by decide)
  show zV G (eX5_init (g_rmc 1 5 2078)) (4, 2068) 40 [(0, .ref 61)] [.ref 65, .ref 61] (sh0.take 66, I, J, (up2 (up2 (up2 R 61 0 (some 62)) 61 1 (some 63)) 61 3 (some 64))) _
  refine zV_putF (q' := 65) 4 dX5_init_40 rfl rfl fl_RX5_25 rfl (by decide) rfl (fun _ => rfl) (fun _ => rfl) ?_
  refine zV_aload_n dX5_init_43 rfl 0 rfl rfl ?_
  refine zV_bipush (v := (nI 10)) dX5_init_44 rfl rfl ?_
  refine zV_newa (t := 0) (N := 10) dX5_init_46 rfl tw73 rfl (by decide) rfl (by decide) (gn_R (q := 61) (k := 4) (v := some 65) gn66 (by decide)) (by decide) ⟨by decide, by decide⟩ ?_
  have gn67 := gn_le (gn_R (q := 61) (k := 4) (v := some 65) gn66 (by decide)) (show 66 ≤ 67 by decide)
  show zV G (eX5_init (g_rmc 1 5 2078)) (5, 2078) 48 [(0, .ref 61)] [.ref 66, .ref 61] (sh0.take 67, I, J, (up2 (up2 (up2 (up2 R 61 0 (some 62)) 61 1 (some 63)) 61 3 (some 64)) 61 4 (some 65))) _
  refine zV_putF (q' := 66) 5 dX5_init_48 rfl rfl fl_RX5_28 rfl (by decide) rfl (fun _ => rfl) (fun _ => rfl) ?_
  refine zV_aload_n dX5_init_51 rfl 0 rfl rfl ?_
  refine zV_iconst (v := (nI 0)) dX5_init_52 rfl rfl ?_
  refine zV_puti 6 dX5_init_53 rfl fl_RX5_31 rfl (by decide) rfl rfl rfl ?_
  rw [up2_id (show I 61 6 = nI 0 from (hz _))]
  refine zV_aload_n dX5_init_56 rfl 0 rfl rfl ?_
  refine zV_iconst (v := (nI 0)) dX5_init_57 rfl rfl ?_
  refine zV_puti 7 dX5_init_58 rfl fl_RX5_34 rfl (by decide) rfl rfl rfl ?_
  rw [up2_id (show I 61 7 = nI 0 from (hz _))]
  refine zV_aload_n dX5_init_61 rfl 0 rfl rfl ?_
  refine zV_iconst (v := (nI 0)) dX5_init_62 rfl rfl ?_
  refine zV_puti 8 dX5_init_63 rfl fl_RX5_37 rfl (by decide) rfl rfl rfl ?_
  rw [up2_id (show I 61 8 = nI 0 from (hz _))]
  exact zV_return dX5_init_66 rfl (⟨rfl, rfl⟩)

set_option maxRecDepth 100000 in
theorem n_reach {G : mG} {I : Nat → Nat → Int32} {J : Nat → Nat → Int64} {R : Nat → Nat → Option Nat} (hz : ∀ k, I 44 k = 0) (hn : g_new (sh0.take 45, I, J, R)) : zC G yX2_init (eX2_init (g_rmc 1 16 233)) [.ref 44] (sh0.take 45, I, J, R) (fun r M => r = none ∧ M = (sh0.take 61, up2 (up2 (up2 I 44 2 (nI 1)) 44 3 (nI 16)) 44 8 (nI 11264), J, up2 (up2 (up2 (up2 (up2 (fun a b => if a = 45 then (if b < 11 then some (45 + 1 + b) else none) else R a b) 44 0 (some 45)) 44 1 (some 57)) 44 4 (some 58)) 44 5 (some 59)) 44 6 (some 60))) := by
  refine zC_of (by decide +kernel) rfl (by decide) (Nat.le_of_ble_eq_true rfl) ?_
  show zV G (eX2_init (g_rmc 1 16 233)) (0, 0) 0 [(0, .ref 44)] [] (sh0.take 45, I, J, R) _
  refine zV_aload_n dX2_init_0 rfl 0 rfl rfl ?_
  refine zV_objInit dX2_init_1 rfl ko_RX2_5 (by decide) (by decide) ?_
  refine zV_aload_n dX2_init_4 rfl 0 rfl rfl ?_
  refine zV_bipush (v := (nI 11)) dX2_init_5 rfl rfl ?_
  refine zV_bipush (v := (nI 16)) dX2_init_7 rfl rfl ?_
  refine zV_multi (N := 11) (K := 16) dX2_init_9 rfl ⟨tw137, tw167⟩ rfl rfl (by decide) (by decide) hn (by decide) ⟨by decide, by decide⟩ ?_
  have gnM := gn_M (n := 45) (N := 11) hn (by decide)
  show zV G (eX2_init (g_rmc 1 16 233)) (12, 187) 13 [(0, .ref 44)] [.ref 45, .ref 44] (sh0.take 57, I, J, (fun a b => if a = 45 then (if b < 11 then some (45 + 1 + b) else none) else R a b)) _
  refine zV_putF (q' := 45) 0 dX2_init_13 rfl rfl fl_RX2_13 rfl (by decide) rfl (fun _ => rfl) (fun _ => rfl) ?_
  refine zV_aload_n dX2_init_16 rfl 0 rfl rfl ?_
  refine zV_bipush (v := (nI 16)) dX2_init_17 rfl rfl ?_
  refine zV_newa (t := 1) (N := 16) dX2_init_19 rfl tw167 rfl (by decide) rfl (by decide) (gn_R (q := 44) (k := 0) (v := some 45) gnM (by decide)) (by decide) ⟨by decide, by decide⟩ ?_
  have gn58 := gn_le (gn_R (q := 44) (k := 0) (v := some 45) gnM (by decide)) (show 57 ≤ 58 by decide)
  show zV G (eX2_init (g_rmc 1 16 233)) (13, 203) 21 [(0, .ref 44)] [.ref 57, .ref 44] (sh0.take 58, I, J, (up2 (fun a b => if a = 45 then (if b < 11 then some (45 + 1 + b) else none) else R a b) 44 0 (some 45))) _
  refine zV_putF (q' := 57) 1 dX2_init_21 rfl rfl fl_RX2_16 rfl (by decide) rfl (fun _ => rfl) (fun _ => rfl) ?_
  refine zV_aload_n dX2_init_24 rfl 0 rfl rfl ?_
  refine zV_iconst (v := (nI 1)) dX2_init_25 rfl rfl ?_
  refine zV_puti 2 dX2_init_26 rfl fl_RX2_20 rfl (by decide) rfl rfl rfl ?_
  refine zV_aload_n dX2_init_29 rfl 0 rfl rfl ?_
  refine zV_bipush (v := (nI 16)) dX2_init_30 rfl rfl ?_
  refine zV_puti 3 dX2_init_32 rfl fl_RX2_24 rfl (by decide) rfl rfl rfl ?_
  refine zV_aload_n dX2_init_35 rfl 0 rfl rfl ?_
  refine zV_bipush (v := (nI 10)) dX2_init_36 rfl rfl ?_
  refine zV_newa (t := 0) (N := 10) dX2_init_38 rfl tw73 rfl (by decide) rfl (by decide) (gn_I (q := 44) (k := 3) (v := (nI 16)) (gn_I (q := 44) (k := 2) (v := (nI 1)) (gn_R (q := 44) (k := 1) (v := some 57) gn58 (by decide)) (by decide)) (by decide)) (by decide) ⟨by decide, by decide⟩ ?_
  have gn59 := gn_le (gn_I (q := 44) (k := 3) (v := (nI 16)) (gn_I (q := 44) (k := 2) (v := (nI 1)) (gn_R (q := 44) (k := 1) (v := some 57) gn58 (by decide)) (by decide)) (by decide)) (show 58 ≤ 59 by decide)
  show zV G (eX2_init (g_rmc 1 16 233)) (14, 213) 40 [(0, .ref 44)] [.ref 58, .ref 44] (sh0.take 59, (up2 (up2 I 44 2 (nI 1)) 44 3 (nI 16)), J, (up2 (up2 (fun a b => if a = 45 then (if b < 11 then some (45 + 1 + b) else none) else R a b) 44 0 (some 45)) 44 1 (some 57))) _
  refine zV_putF (q' := 58) 4 dX2_init_40 rfl rfl fl_RX2_28 rfl (by decide) rfl (fun _ => rfl) (fun _ => rfl) ?_
  refine zV_aload_n dX2_init_43 rfl 0 rfl rfl ?_
  refine zV_bipush (v := (nI 10)) dX2_init_44 rfl rfl ?_
  refine zV_newa (t := 0) (N := 10) dX2_init_46 rfl tw73 rfl (by decide) rfl (by decide) (gn_R (q := 44) (k := 4) (v := some 58) gn59 (by decide)) (by decide) ⟨by decide, by decide⟩ ?_
  have gn60 := gn_le (gn_R (q := 44) (k := 4) (v := some 58) gn59 (by decide)) (show 59 ≤ 60 by decide)
  show zV G (eX2_init (g_rmc 1 16 233)) (15, 223) 48 [(0, .ref 44)] [.ref 59, .ref 44] (sh0.take 60, (up2 (up2 I 44 2 (nI 1)) 44 3 (nI 16)), J, (up2 (up2 (up2 (fun a b => if a = 45 then (if b < 11 then some (45 + 1 + b) else none) else R a b) 44 0 (some 45)) 44 1 (some 57)) 44 4 (some 58))) _
  refine zV_putF (q' := 59) 5 dX2_init_48 rfl rfl fl_RX2_32 rfl (by decide) rfl (fun _ => rfl) (fun _ => rfl) ?_
  refine zV_aload_n dX2_init_51 rfl 0 rfl rfl ?_
  refine zV_bipush (v := (nI 10)) dX2_init_52 rfl rfl ?_
  refine zV_newa (t := 0) (N := 10) dX2_init_54 rfl tw73 rfl (by decide) rfl (by decide) (gn_R (q := 44) (k := 5) (v := some 59) gn60 (by decide)) (by decide) ⟨by decide, by decide⟩ ?_
  have gn61 := gn_le (gn_R (q := 44) (k := 5) (v := some 59) gn60 (by decide)) (show 60 ≤ 61 by decide)
  show zV G (eX2_init (g_rmc 1 16 233)) (16, 233) 56 [(0, .ref 44)] [.ref 60, .ref 44] (sh0.take 61, (up2 (up2 I 44 2 (nI 1)) 44 3 (nI 16)), J, (up2 (up2 (up2 (up2 (fun a b => if a = 45 then (if b < 11 then some (45 + 1 + b) else none) else R a b) 44 0 (some 45)) 44 1 (some 57)) 44 4 (some 58)) 44 5 (some 59))) _
  refine zV_putF (q' := 60) 6 dX2_init_56 rfl rfl fl_RX2_35 rfl (by decide) rfl (fun _ => rfl) (fun _ => rfl) ?_
  refine zV_aload_n dX2_init_59 rfl 0 rfl rfl ?_
  refine zV_iconst (v := (nI 0)) dX2_init_60 rfl rfl ?_
  refine zV_puti 7 dX2_init_61 rfl fl_RX2_38 rfl (by decide) rfl rfl rfl ?_
  rw [up2_id (show (up2 (up2 I 44 2 (nI 1)) 44 3 (nI 16)) 44 7 = nI 0 from ((up2_nk (by decide)).trans ((up2_nk (by decide)).trans (hz 7))))]
  refine zV_aload_n dX2_init_64 rfl 0 rfl rfl ?_
  refine zV_sipush (v := (nI 11264)) dX2_init_65 rfl rfl ?_
  refine zV_puti 8 dX2_init_68 rfl fl_RX2_41 rfl (by decide) rfl rfl rfl ?_
  exact zV_return dX2_init_71 rfl (⟨rfl, rfl⟩)

set_option maxRecDepth 100000 in
theorem n_fill {G : mG} {I : Nat → Nat → Int32} {J : Nat → Nat → Int64} {R : Nat → Nat → Option Nat} {sh : List (Nat × Nat × Nat)} {q : Nat} (hs : sh[q]? = some (1, 0, 10)) {x : Int32} : zC G yJ7_fill_53178 (eJ7_fill_53178 (g_rmv 0)) [.ref q, .int x] (sh, I, J, R) (fun r M => ∃ I', r = none ∧ M = (sh, I', J, R) ∧ (∀ j, j < 10 → I' q j = x) ∧ ∀ i, i ≠ q → I' i = I i) := by
  refine zC_of (by decide +kernel) rfl (by decide) (Nat.le_of_ble_eq_true rfl) ?_
  show zV G (eJ7_fill_53178 (g_rmv 0)) (0, 0) 0 [(0, .ref q), (1, .int x)] [] (sh, I, J, R) _
  refine zV_iconst (v := (nI 0)) dJ7_fill_53178_0 rfl rfl ?_
  refine zV_istore_n (lv' := [(0, .ref q), (1, .int x), (2, .int (nI 0))]) dJ7_fill_53178_1 rfl rfl (by decide) rfl ?_
  refine zV_aload_n dJ7_fill_53178_2 rfl 0 rfl rfl ?_
  refine zV_alen (v := nI 10) dJ7_fill_53178_3 rfl hs (by decide) rfl ?_
  refine zV_istore_n (lv' := [(0, .ref q), (1, .int x), (2, .int (nI 0)), (3, .int (nI 10))]) dJ7_fill_53178_4 rfl rfl (by decide) rfl ?_
  refine z_for (fun c => ∀ (I1 : Nat → Nat → Int32), ((∀ j, j < c → I1 q j = x) ∧ ∀ i, i ≠ q → I1 i = I i) → zV G (eJ7_fill_53178 (g_rmv 0)) (0, 0) 5 [(0, .ref q), (1, .int x), (2, .int (nI c)), (3, .int (nI 10))] [] (sh, I1, J, R) _) 10 ?_ ?_ 0 (Nat.zero_le _) I ⟨fun j h => absurd h (Nat.not_lt_zero _), fun _ _ => rfl⟩
  · intro I1 h1
    refine zV_iload_n dJ7_fill_53178_5 rfl 2 rfl rfl ?_
    refine zV_iload_n dJ7_fill_53178_6 rfl 3 rfl rfl ?_
    refine zN_icmp_ge (tgt := 20) dJ7_fill_53178_7 rfl rfl (by omega) (by omega) (fun _ => ?_) (fun z => absurd z (by omega))
    exact zV_return dJ7_fill_53178_20 rfl (⟨I1, rfl, rfl, h1.1, h1.2⟩)
  · intro c hc ih
    intro I1 h1
    refine zV_iload_n dJ7_fill_53178_5 rfl 2 rfl rfl ?_
    refine zV_iload_n dJ7_fill_53178_6 rfl 3 rfl rfl ?_
    refine zN_icmp_ge (tgt := 20) dJ7_fill_53178_7 rfl rfl (by omega) (by omega) (fun z => absurd z (by omega)) (fun _ => ?_)
    refine zV_aload_n dJ7_fill_53178_10 rfl 0 rfl rfl ?_
    refine zV_iload_n dJ7_fill_53178_11 rfl 2 rfl rfl ?_
    refine zV_iload_n dJ7_fill_53178_12 rfl 1 rfl rfl ?_
    refine zV_iastore c dJ7_fill_53178_13 rfl hs rfl (by omega) (by decide)  ?_
    refine zV_iinc (y := (nI (c + 1))) (lv' := [(0, .ref q), (1, .int x), (2, .int (nI (c + 1))), (3, .int (nI 10))]) dJ7_fill_53178_14 rfl 2 rfl (nI_1 _) (by decide) rfl ?_
    refine zV_goto (tgt := 5) dJ7_fill_53178_17 rfl ?_
    exact ih _ ⟨fun j hj => by
        by_cases e : j = c
        · rw [e, up2_same]
        · rw [up2_nk e]; exact h1.1 j (by omega), fun i hi => by rw [← h1.2 i hi]; funext k; exact up2_ni hi⟩
