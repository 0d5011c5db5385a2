/-! how many bits a long has -/
abbrev bM5 : Nat := 6148914691236517205
abbrev bM3 : Nat := 3689348814741910323
abbrev bMF : Nat := 1085102592571150095
def bs1 (n : Nat) : Nat := n - (n / 2 &&& bM5)
def bs2 (n : Nat) : Nat := (n &&& bM3) + (n / 4 &&& bM3)
def bs3 (n : Nat) : Nat := n + n / 16 &&& bMF
def bT (n : Nat) : Nat := bs2 (bs1 n)
def bU (n : Nat) : Nat := bs3 (bT n)
theorem and256 {M h l : Nat} (hM : ∀ i, i < 56 → M.testBit (i + 8) = M.testBit i) (hh : h < 2 ^ 56) (hl : l < 256) : (256 * h + l) &&& M = 256 * (h &&& M) + (l &&& M) := by
  apply Nat.eq_of_testBit_eq
  intro i
  have hl2 : (l &&& M) < 2 ^ 8 := Nat.lt_of_le_of_lt Nat.and_le_left hl
  rw [Nat.testBit_and, show (256 : Nat) = 2 ^ 8 from rfl, Nat.testBit_two_pow_mul_add h (show l < 2 ^ 8 from hl), Nat.testBit_two_pow_mul_add _ hl2]
  by_cases h8 : i < 8
  · rw [if_pos h8, if_pos h8, Nat.testBit_and]
  · rw [if_neg h8, if_neg h8, Nat.testBit_and]
    by_cases h56 : i - 8 < 56
    · have e := hM (i - 8) h56
      rw [show i - 8 + 8 = i by omega] at e
      rw [e]
    · rw [Nat.testBit_lt_two_pow (Nat.lt_of_lt_of_le hh (Nat.pow_le_pow_right (by decide) (by omega))), Bool.false_and, Bool.false_and]
theorem bM5_p : ∀ i, i < 56 → bM5.testBit (i + 8) = bM5.testBit i := by decide +kernel
theorem bM3_p : ∀ i, i < 56 → bM3.testBit (i + 8) = bM3.testBit i := by decide +kernel
theorem bMF_p : ∀ i, i < 56 → bMF.testBit (i + 8) = bMF.testBit i := by decide +kernel
theorem b5_lo : ∀ a, a < 2 → ∀ b, b < 128 → (128 * a + b) &&& bM5 = b &&& bM5 := by decide +kernel
theorem b3_lo : ∀ a, a < 4 → ∀ b, b < 64 → (64 * a + b) &&& bM3 = b &&& bM3 := by decide +kernel
theorem bs1_le (n : Nat) : bs1 n ≤ n := Nat.sub_le _ _
theorem bs1_step {h l : Nat} (hh : h < 2 ^ 56) (hl : l < 256) : bs1 (256 * h + l) = 256 * bs1 h + bs1 l := by
  unfold bs1
  have e : (256 * h + l) / 2 = 256 * (h / 2) + (128 * (h % 2) + l / 2) := by omega
  have a1 : (h / 2 &&& bM5) ≤ h / 2 := Nat.and_le_left
  have a2 : (l / 2 &&& bM5) ≤ l / 2 := Nat.and_le_left
  rw [e, and256 bM5_p (by omega) (by omega), b5_lo _ (by omega) _ (by omega)]
  omega
theorem bs2_step {h l : Nat} (hh : h < 2 ^ 56) (hl : l < 256) : bs2 (256 * h + l) = 256 * bs2 h + bs2 l := by
  unfold bs2
  have e : (256 * h + l) / 4 = 256 * (h / 4) + (64 * (h % 4) + l / 4) := by omega
  rw [e, and256 bM3_p hh hl, and256 bM3_p (by omega) (by omega), b3_lo _ (by omega) _ (by omega)]
  omega
theorem bT_step {h l : Nat} (hh : h < 2 ^ 56) (hl : l < 256) : bT (256 * h + l) = 256 * bT h + bT l := by
  unfold bT
  have h1 := bs1_le h
  have h2 := bs1_le l
  rw [bs1_step hh hl, bs2_step (by omega) (by omega)]
theorem bT_lo : ∀ l, l < 256 → bT l ≤ 68 ∧ bT l % 16 ≤ 4 := by decide +kernel
theorem bT_lt : ∀ k, k ≤ 8 → ∀ n, n < 256 ^ k → 2 * bT n < 256 ^ k
  | 0, _, n, hn => by
    have e : n = 0 := by omega
    subst e
    decide
  | k + 1, hk, n, hn => by
    have e : 256 ^ (k + 1) = 256 * 256 ^ k := by rw [Nat.pow_succ, Nat.mul_comm]
    have h7 : 256 ^ k ≤ 256 ^ 7 := Nat.pow_le_pow_right (by decide) (by omega)
    have e7 : 256 ^ 7 = 2 ^ 56 := by decide
    have hq : n / 256 < 256 ^ k := by omega
    have ih := bT_lt k (by omega) (n / 256) hq
    have hl := (bT_lo (n % 256) (by omega)).1
    have st := bT_step (h := n / 256) (l := n % 256) (by omega) (by omega)
    rw [show 256 * (n / 256) + n % 256 = n by omega] at st
    omega
theorem bT_nib {n : Nat} (hn : n < 2 ^ 64) : bT n % 16 ≤ 4 := by
  have hl := (bT_lo (n % 256) (by omega)).2
  have st := bT_step (h := n / 256) (l := n % 256) (by omega) (by omega)
  rw [show 256 * (n / 256) + n % 256 = n by omega] at st
  omega
theorem bU_lo : ∀ a, a < 5 → ∀ l, l < 256 → (16 * a + (bT l + bT l / 16)) &&& bMF = bU l := by decide +kernel
theorem bU_8 : ∀ l, l < 256 → bU l = fb_ct (fun i => l.testBit i) 8 := by decide +kernel
theorem bU_step {h l : Nat} (hh : h < 2 ^ 56) (hl : l < 256) : bU (256 * h + l) = 256 * bU h + bU l := by
  have st := bT_step hh hl
  have b1 := (bT_lo l hl).1
  have b2 := bT_nib (n := h) (by omega)
  have b3 := bT_lt 7 (by decide) h (by rw [show (256 : Nat) ^ 7 = 2 ^ 56 by decide]; exact hh)
  rw [show (256 : Nat) ^ 7 = 2 ^ 56 by decide] at b3
  have lo := bU_lo (bT h % 16) (by omega) l hl
  rw [← lo]
  unfold bU bs3
  rw [st]
  have e : 256 * bT h + bT l + (256 * bT h + bT l) / 16 = 256 * (bT h + bT h / 16) + (16 * (bT h % 16) + (bT l + bT l / 16)) := by omega
  rw [e, and256 bMF_p (by omega) (by omega)]
theorem ct_step (n m : Nat) : fb_ct (fun i => n.testBit i) (8 + m) = fb_ct (fun i => (n % 256).testBit i) 8 + fb_ct (fun i => (n / 256).testBit i) m := by
  rw [fb_ct_split]
  congr 1
  · refine fb_ct_cong (fun k hk => ?_)
    rw [show (256 : Nat) = 2 ^ 8 from rfl, Nat.testBit_mod_two_pow, decide_eq_true hk, Bool.true_and]
  · refine fb_ct_cong (fun k hk => ?_)
    rw [show (256 : Nat) = 2 ^ 8 from rfl, Nat.testBit_div_two_pow, Nat.add_comm]
theorem bU_one {n : Nat} (m M : Nat) (hM : M = 8 + m) (hn : n < 2 ^ 64) : ∃ u, u ≤ 8 ∧ bU n = 256 * bU (n / 256) + u ∧ fb_ct (fun i => n.testBit i) M = u + fb_ct (fun i => (n / 256).testBit i) m := by
  subst hM
  have st := bU_step (h := n / 256) (l := n % 256) (by omega) (by omega)
  rw [show 256 * (n / 256) + n % 256 = n by omega] at st
  refine ⟨bU (n % 256), ?_, st, ?_⟩
  · rw [bU_8 _ (by omega)]
    exact fb_ct_le _ 8
  · rw [ct_step, bU_8 _ (by omega)]
theorem la0 (u0 u1 u2 u3 u4 u5 u6 u7 : Nat) : 256 * (256 * (256 * (256 * (256 * (256 * (256 * (256 * 0 + u7) + u6) + u5) + u4) + u3) + u2) + u1) + u0 = u0 + 256 * (u1 + 256 * (u2 + 256 * (u3 + 256 * (u4 + 256 * (u5 + 256 * (u6 + 256 * u7)))))) := by omega
theorem dz8 {n : Nat} (h : n < 2 ^ 64) : n / 256 / 256 / 256 / 256 / 256 / 256 / 256 / 256 = 0 := by omega
theorem dlt {n : Nat} (h : n < 2 ^ 64) : n / 256 < 2 ^ 64 := Nat.lt_of_le_of_lt (Nat.div_le_self _ _) h
theorem bU_all {n : Nat} (hn : n < 2 ^ 64) : ∃ u0 u1 u2 u3 u4 u5 u6 u7, u0 ≤ 8 ∧ u1 ≤ 8 ∧ u2 ≤ 8 ∧ u3 ≤ 8 ∧ u4 ≤ 8 ∧ u5 ≤ 8 ∧ u6 ≤ 8 ∧ u7 ≤ 8 ∧ bU n = u0 + 256 * (u1 + 256 * (u2 + 256 * (u3 + 256 * (u4 + 256 * (u5 + 256 * (u6 + 256 * u7)))))) ∧ fb_ct (fun i => n.testBit i) 64 = u0 + (u1 + (u2 + (u3 + (u4 + (u5 + (u6 + u7)))))) := by
  obtain ⟨u0, h0, a0, c0⟩ := bU_one 56 64 (by decide) hn
  obtain ⟨u1, h1, a1, c1⟩ := bU_one (n := n / 256) 48 56 (by decide) (dlt hn)
  obtain ⟨u2, h2, a2, c2⟩ := bU_one (n := n / 256 / 256) 40 48 (by decide) (dlt (dlt hn))
  obtain ⟨u3, h3, a3, c3⟩ := bU_one (n := n / 256 / 256 / 256) 32 40 (by decide) (dlt (dlt (dlt hn)))
  obtain ⟨u4, h4, a4, c4⟩ := bU_one (n := n / 256 / 256 / 256 / 256) 24 32 (by decide) (dlt (dlt (dlt (dlt hn))))
  obtain ⟨u5, h5, a5, c5⟩ := bU_one (n := n / 256 / 256 / 256 / 256 / 256) 16 24 (by decide) (dlt (dlt (dlt (dlt (dlt hn)))))
  obtain ⟨u6, h6, a6, c6⟩ := bU_one (n := n / 256 / 256 / 256 / 256 / 256 / 256) 8 16 (by decide) (dlt (dlt (dlt (dlt (dlt (dlt hn))))))
  obtain ⟨u7, h7, a7, c7⟩ := bU_one (n := n / 256 / 256 / 256 / 256 / 256 / 256 / 256) 0 8 (by decide) (dlt (dlt (dlt (dlt (dlt (dlt (dlt hn)))))))
  have z := dz8 hn
  have zu : bU 0 = 0 := by decide
  rw [z, zu] at a7
  have c8 : fb_ct (fun i => (n / 256 / 256 / 256 / 256 / 256 / 256 / 256 / 256).testBit i) 0 = 0 := rfl
  rw [c8] at c7
  refine ⟨u0, u1, u2, u3, u4, u5, u6, u7, h0, h1, h2, h3, h4, h5, h6, h7, ?_, ?_⟩
  · rw [a0, a1, a2, a3, a4, a5, a6, a7]
    exact la0 _ _ _ _ _ _ _ _
  · rw [c0, c1, c2, c3, c4, c5, c6, c7, Nat.add_zero]
/-- the last steps add the bytes -/
theorem dvm {a m b : Nat} (h : a < m) : (a + m * b) / m = b := by
  rw [Nat.add_mul_div_left _ _ (by omega), Nat.div_eq_of_lt h, Nat.zero_add]
theorem lf1 (u0 u1 u2 u3 u4 u5 u6 u7 : Nat) : (u0 + 256 * (u1 + 256 * (u2 + 256 * (u3 + 256 * (u4 + 256 * (u5 + 256 * (u6 + 256 * u7))))))) + (u1 + 256 * (u2 + 256 * (u3 + 256 * (u4 + 256 * (u5 + 256 * (u6 + 256 * u7)))))) = (u0 + u1 + 256 * (u1 + u2)) + 65536 * ((u2 + u3) + 256 * ((u3 + u4) + 256 * ((u4 + u5) + 256 * ((u5 + u6) + 256 * ((u6 + u7) + 256 * u7))))) := by omega
theorem lf2 (u0 u1 u2 u3 u4 u5 u6 u7 : Nat) : ((u0 + u1 + 256 * (u1 + u2)) + 65536 * ((u2 + u3) + 256 * ((u3 + u4) + 256 * ((u4 + u5) + 256 * ((u5 + u6) + 256 * ((u6 + u7) + 256 * u7)))))) + ((u2 + u3) + 256 * ((u3 + u4) + 256 * ((u4 + u5) + 256 * ((u5 + u6) + 256 * ((u6 + u7) + 256 * u7))))) = (u0 + u1 + u2 + u3 + 256 * (u1 + u2 + u3 + u4) + 65536 * (u2 + u3 + u4 + u5) + 16777216 * (u3 + u4 + u5 + u6)) + 4294967296 * ((u4 + u5 + u6 + u7) + 256 * ((u5 + u6 + u7) + 256 * ((u6 + u7) + 256 * u7))) := by omega
theorem lf3 (u0 u1 u2 u3 u4 u5 u6 u7 : Nat) : ((u0 + u1 + u2 + u3 + 256 * (u1 + u2 + u3 + u4) + 65536 * (u2 + u3 + u4 + u5) + 16777216 * (u3 + u4 + u5 + u6)) + 4294967296 * ((u4 + u5 + u6 + u7) + 256 * ((u5 + u6 + u7) + 256 * ((u6 + u7) + 256 * u7)))) + ((u4 + u5 + u6 + u7) + 256 * ((u5 + u6 + u7) + 256 * ((u6 + u7) + 256 * u7))) = (u0 + (u1 + (u2 + (u3 + (u4 + (u5 + (u6 + u7))))))) + 128 * (2 * (u1 + u2 + u3 + u4) + 512 * (u2 + u3 + u4 + u5) + 131072 * (u3 + u4 + u5 + u6) + 33554432 * ((u4 + u5 + u6 + u7) + 256 * ((u5 + u6 + u7) + 256 * ((u6 + u7) + 256 * u7))) + 2 * ((u5 + u6 + u7) + 256 * ((u6 + u7) + 256 * u7))) := by omega
theorem lb2 {u0 u1 u2 : Nat} (h0 : u0 ≤ 8) (h1 : u1 ≤ 8) (h2 : u2 ≤ 8) : u0 + u1 + 256 * (u1 + u2) < 65536 := by omega
theorem lb3 {u0 u1 u2 u3 u4 u5 u6 : Nat} (h0 : u0 ≤ 8) (h1 : u1 ≤ 8) (h2 : u2 ≤ 8) (h3 : u3 ≤ 8) (h4 : u4 ≤ 8) (h5 : u5 ≤ 8) (h6 : u6 ≤ 8) : u0 + u1 + u2 + u3 + 256 * (u1 + u2 + u3 + u4) + 65536 * (u2 + u3 + u4 + u5) + 16777216 * (u3 + u4 + u5 + u6) < 4294967296 := by omega
theorem lb4 {u0 u1 u2 u3 u4 u5 u6 u7 : Nat} (h0 : u0 ≤ 8) (h1 : u1 ≤ 8) (h2 : u2 ≤ 8) (h3 : u3 ≤ 8) (h4 : u4 ≤ 8) (h5 : u5 ≤ 8) (h6 : u6 ≤ 8) (h7 : u7 ≤ 8) : u0 + (u1 + (u2 + (u3 + (u4 + (u5 + (u6 + u7)))))) < 128 := by omega
theorem bsum {u0 u1 u2 u3 u4 u5 u6 u7 y : Nat} (h0 : u0 ≤ 8) (h1 : u1 ≤ 8) (h2 : u2 ≤ 8) (h3 : u3 ≤ 8) (h4 : u4 ≤ 8) (h5 : u5 ≤ 8) (h6 : u6 ≤ 8) (h7 : u7 ≤ 8) (hy : y = u0 + 256 * (u1 + 256 * (u2 + 256 * (u3 + 256 * (u4 + 256 * (u5 + 256 * (u6 + 256 * u7))))))) : (y + y / 256 + (y + y / 256) / 65536 + (y + y / 256 + (y + y / 256) / 65536) / 4294967296) % 128 = u0 + (u1 + (u2 + (u3 + (u4 + (u5 + (u6 + u7)))))) := by
  have e1 : y / 256 = u1 + 256 * (u2 + 256 * (u3 + 256 * (u4 + 256 * (u5 + 256 * (u6 + 256 * u7))))) := by rw [hy]; exact dvm (Nat.lt_of_le_of_lt h0 (by decide))
  have f1 : y + y / 256 = (u0 + u1 + 256 * (u1 + u2)) + 65536 * ((u2 + u3) + 256 * ((u3 + u4) + 256 * ((u4 + u5) + 256 * ((u5 + u6) + 256 * ((u6 + u7) + 256 * u7))))) := by rw [e1, hy]; exact lf1 _ _ _ _ _ _ _ _
  have e2 : (y + y / 256) / 65536 = (u2 + u3) + 256 * ((u3 + u4) + 256 * ((u4 + u5) + 256 * ((u5 + u6) + 256 * ((u6 + u7) + 256 * u7)))) := by rw [f1]; exact dvm (lb2 h0 h1 h2)
  have f2 : y + y / 256 + (y + y / 256) / 65536 = (u0 + u1 + u2 + u3 + 256 * (u1 + u2 + u3 + u4) + 65536 * (u2 + u3 + u4 + u5) + 16777216 * (u3 + u4 + u5 + u6)) + 4294967296 * ((u4 + u5 + u6 + u7) + 256 * ((u5 + u6 + u7) + 256 * ((u6 + u7) + 256 * u7))) := by rw [e2, f1]; exact lf2 _ _ _ _ _ _ _ _
  have e3 : (y + y / 256 + (y + y / 256) / 65536) / 4294967296 = (u4 + u5 + u6 + u7) + 256 * ((u5 + u6 + u7) + 256 * ((u6 + u7) + 256 * u7)) := by rw [f2]; exact dvm (lb3 h0 h1 h2 h3 h4 h5 h6)
  have f3 : y + y / 256 + (y + y / 256) / 65536 + (y + y / 256 + (y + y / 256) / 65536) / 4294967296 = (u0 + (u1 + (u2 + (u3 + (u4 + (u5 + (u6 + u7))))))) + 128 * (2 * (u1 + u2 + u3 + u4) + 512 * (u2 + u3 + u4 + u5) + 131072 * (u3 + u4 + u5 + u6) + 33554432 * ((u4 + u5 + u6 + u7) + 256 * ((u5 + u6 + u7) + 256 * ((u6 + u7) + 256 * u7))) + 2 * ((u5 + u6 + u7) + 256 * ((u6 + u7) + 256 * u7))) := by rw [e3, f2]; exact lf3 _ _ _ _ _ _ _ _
  rw [f3, Nat.add_mul_mod_self_left, Nat.mod_eq_of_lt (lb4 h0 h1 h2 h3 h4 h5 h6 h7)]
theorem bfin {n : Nat} (hn : n < 2 ^ 64) : (bU n + bU n / 256 + (bU n + bU n / 256) / 65536 + (bU n + bU n / 256 + (bU n + bU n / 256) / 65536) / 4294967296) % 128 = fb_ct (fun i => n.testBit i) 64 := by
  obtain ⟨u0, u1, u2, u3, u4, u5, u6, u7, h0, h1, h2, h3, h4, h5, h6, h7, hy, hc⟩ := bU_all hn
  rw [hc]
  exact bsum h0 h1 h2 h3 h4 h5 h6 h7 hy
set_option maxRecDepth 100000 in
theorem c_bitCount64 {G : mG} {I : Nat → Nat → Int32} {J : Nat → Nat → Int64} {t : Nat} {n : Nat} (hn : n < 2 ^ 64) : zC G yJ13_bitCount_95d88 (eJ13_bitCount_95d88 (g_rmv 0)) [.long (lN n)] (mm I J t) (fun r M => r = some (.int (nI (fb_ct (fun i => n.testBit i) 64))) ∧ M = mm I J t) := by
  refine zC_of (by decide +kernel) rfl (by decide) (Nat.le_of_ble_eq_true rfl) ?_
  have b1 := bs1_le n
  have b2 := bT_lt 8 (by decide) n (by rw [show (256 : Nat) ^ 8 = 2 ^ 64 by decide]; exact hn)
  rw [show (256 : Nat) ^ 8 = 2 ^ 64 by decide] at b2
  have b3 : bU n ≤ bMF := Nat.and_le_right
  have b4 : bMF < 2 ^ 61 := by decide
  show zV G (eJ13_bitCount_95d88 (g_rmv 0)) (0, 0) 0 [(0, .long (lN n))] [] (mm I J t) _
  refine zV_lload_n dJ13_bitCount_95d88_0 rfl 0 rfl rfl ?_
  refine zV_lload_n dJ13_bitCount_95d88_1 rfl 0 rfl rfl ?_
  refine zV_iconst (v := (nI 1)) dJ13_bitCount_95d88_2 rfl rfl ?_
  refine zA_lushr (z := (lN (n / 2))) dJ13_bitCount_95d88_3 rfl  (wb_shr (n := n) (k := 1) (by omega) (by decide)) ?_
  refine zV_ldc2 (v := (6148914691236517205)) dJ13_bitCount_95d88_4 rfl tw436 ?_
  refine zA_land (z := (lN (n / 2 &&& bM5))) dJ13_bitCount_95d88_7 rfl  (wb_and (a := n / 2) (b := bM5) (by omega) (by decide)) ?_
  refine zA_lsub (z := (lN (bs1 n))) dJ13_bitCount_95d88_8 rfl  (lN_sub (Nat.le_trans Nat.and_le_left (Nat.div_le_self _ _))) ?_
  refine zV_lstore_n (lv' := [(0, .long (lN (bs1 n)))]) dJ13_bitCount_95d88_9 rfl rfl (by decide) rfl ?_
  refine zV_lload_n dJ13_bitCount_95d88_10 rfl 0 rfl rfl ?_
  refine zV_ldc2 (v := (3689348814741910323)) dJ13_bitCount_95d88_11 rfl tw437 ?_
  refine zA_land (z := (lN (bs1 n &&& bM3))) dJ13_bitCount_95d88_14 rfl  (wb_and (a := bs1 n) (b := bM3) (by omega) (by decide)) ?_
  refine zV_lload_n dJ13_bitCount_95d88_15 rfl 0 rfl rfl ?_
  refine zV_iconst (v := (nI 2)) dJ13_bitCount_95d88_16 rfl rfl ?_
  refine zA_lushr (z := (lN (bs1 n / 4))) dJ13_bitCount_95d88_17 rfl  (wb_shr (n := bs1 n) (k := 2) (by omega) (by decide)) ?_
  refine zV_ldc2 (v := (3689348814741910323)) dJ13_bitCount_95d88_18 rfl tw437 ?_
  refine zA_land (z := (lN (bs1 n / 4 &&& bM3))) dJ13_bitCount_95d88_21 rfl  (wb_and (a := bs1 n / 4) (b := bM3) (by omega) (by decide)) ?_
  refine zA_ladd (z := (lN (bT n))) dJ13_bitCount_95d88_22 rfl  (lN_add _ _) ?_
  refine zV_lstore_n (lv' := [(0, .long (lN (bT n)))]) dJ13_bitCount_95d88_23 rfl rfl (by decide) rfl ?_
  refine zV_lload_n dJ13_bitCount_95d88_24 rfl 0 rfl rfl ?_
  refine zV_lload_n dJ13_bitCount_95d88_25 rfl 0 rfl rfl ?_
  refine zV_iconst (v := (nI 4)) dJ13_bitCount_95d88_26 rfl rfl ?_
  refine zA_lushr (z := (lN (bT n / 16))) dJ13_bitCount_95d88_27 rfl  (wb_shr (n := bT n) (k := 4) (by omega) (by decide)) ?_
  refine zA_ladd (z := (lN (bT n + bT n / 16))) dJ13_bitCount_95d88_28 rfl  (lN_add _ _) ?_
  refine zV_ldc2 (v := (1085102592571150095)) dJ13_bitCount_95d88_29 rfl tw438 ?_
  refine zA_land (z := (lN (bU n))) dJ13_bitCount_95d88_32 rfl  (wb_and (a := bT n + bT n / 16) (b := bMF) (by omega) (by decide)) ?_
  refine zV_lstore_n (lv' := [(0, .long (lN (bU n)))]) dJ13_bitCount_95d88_33 rfl rfl (by decide) rfl ?_
  refine zV_lload_n dJ13_bitCount_95d88_34 rfl 0 rfl rfl ?_
  refine zV_lload_n dJ13_bitCount_95d88_35 rfl 0 rfl rfl ?_
  refine zV_bipush (v := (nI 8)) dJ13_bitCount_95d88_36 rfl rfl ?_
  refine zA_lushr (z := (lN (bU n / 256))) dJ13_bitCount_95d88_38 rfl  (wb_shr (n := bU n) (k := 8) (by omega) (by decide)) ?_
  refine zA_ladd (z := (lN (bU n + bU n / 256))) dJ13_bitCount_95d88_39 rfl  (lN_add _ _) ?_
  refine zV_lstore_n (lv' := [(0, .long (lN (bU n + bU n / 256)))]) dJ13_bitCount_95d88_40 rfl rfl (by decide) rfl ?_
  refine zV_lload_n dJ13_bitCount_95d88_41 rfl 0 rfl rfl ?_
  refine zV_lload_n dJ13_bitCount_95d88_42 rfl 0 rfl rfl ?_
  refine zV_bipush (v := (nI 16)) dJ13_bitCount_95d88_43 rfl rfl ?_
  refine zA_lushr (z := (lN ((bU n + bU n / 256) / 65536))) dJ13_bitCount_95d88_45 rfl  (wb_shr (n := (bU n + bU n / 256)) (k := 16) (by omega) (by decide)) ?_
  refine zA_ladd (z := (lN ((bU n + bU n / 256) + (bU n + bU n / 256) / 65536))) dJ13_bitCount_95d88_46 rfl  (lN_add _ _) ?_
  refine zV_lstore_n (lv' := [(0, .long (lN ((bU n + bU n / 256) + (bU n + bU n / 256) / 65536)))]) dJ13_bitCount_95d88_47 rfl rfl (by decide) rfl ?_
  refine zV_lload_n dJ13_bitCount_95d88_48 rfl 0 rfl rfl ?_
  refine zV_lload_n dJ13_bitCount_95d88_49 rfl 0 rfl rfl ?_
  refine zV_bipush (v := (nI 32)) dJ13_bitCount_95d88_50 rfl rfl ?_
  refine zA_lushr (z := (lN (((bU n + bU n / 256) + (bU n + bU n / 256) / 65536) / 4294967296))) dJ13_bitCount_95d88_52 rfl  (wb_shr (n := ((bU n + bU n / 256) + (bU n + bU n / 256) / 65536)) (k := 32) (by omega) (by decide)) ?_
  refine zA_ladd (z := (lN (((bU n + bU n / 256) + (bU n + bU n / 256) / 65536) + ((bU n + bU n / 256) + (bU n + bU n / 256) / 65536) / 4294967296))) dJ13_bitCount_95d88_53 rfl  (lN_add _ _) ?_
  refine zV_lstore_n (lv' := [(0, .long (lN (((bU n + bU n / 256) + (bU n + bU n / 256) / 65536) + ((bU n + bU n / 256) + (bU n + bU n / 256) / 65536) / 4294967296)))]) dJ13_bitCount_95d88_54 rfl rfl (by decide) rfl ?_
  refine zV_lload_n dJ13_bitCount_95d88_55 rfl 0 rfl rfl ?_
  refine zA_l2i (z := (nI (((bU n + bU n / 256) + (bU n + bU n / 256) / 65536) + ((bU n + bU n / 256) + (bU n + bU n / 256) / 65536) / 4294967296))) dJ13_bitCount_95d88_56 rfl (lN_i _) ?_
  refine zV_bipush (v := (nI 127)) dJ13_bitCount_95d88_57 rfl rfl ?_
  refine zA_iand (z := (nI ((((bU n + bU n / 256) + (bU n + bU n / 256) / 65536) + ((bU n + bU n / 256) + (bU n + bU n / 256) / 65536) / 4294967296) % 128))) dJ13_bitCount_95d88_59 rfl  (fa_mask (((bU n + bU n / 256) + (bU n + bU n / 256) / 65536) + ((bU n + bU n / 256) + (bU n + bU n / 256) / 65536) / 4294967296) 7) ?_
  exact zV_ireturn dJ13_bitCount_95d88_60 rfl rfl (⟨by rw [bfin hn], rfl⟩)

theorem wct {J : Nat → Nat → Int64} {r w : Nat} : ∃ n, n < 2 ^ 64 ∧ J r w = lN n ∧ fb_ct (fun i => n.testBit i) 64 = fb_ct (fun i => jb J r (64 * w + i)) 64 := by
  obtain ⟨n, hn, e⟩ := wb_of (J r w)
  refine ⟨n, hn, e, fb_ct_cong (fun i hi => ?_)⟩
  unfold jb
  rw [show (64 * w + i) / 64 = w by omega, show (64 * w + i) % 64 = i by omega, e, lN_bit n hi]
set_option maxRecDepth 100000 in
theorem c_reachedCount {G : mG} {I : Nat → Nat → Int32} {J : Nat → Nat → Int64} {t : Nat} {P : Nat → Bool} (hP : ∀ k, k < 1024 → jb J 46 k = P k) : zC G yX2_reachedCount (eX2_reachedCount (g_rmv 1)) [.ref 44] (mm I J t) (fun r M => r = some (.int (nI (fb_ct P 1024))) ∧ M = mm I J t) := by
  refine zC_of (by decide +kernel) rfl (by decide) (Nat.le_of_ble_eq_true rfl) ?_
  show zV G (eX2_reachedCount (g_rmv 1)) (0, 0) 0 [(0, .ref 44)] [] (mm I J t) _
  refine zV_iconst (v := (nI 0)) dX2_reachedCount_0 rfl rfl ?_
  refine zV_istore_n (lv' := [(0, .ref 44), (1, .int (nI 0))]) dX2_reachedCount_1 rfl rfl (by decide) rfl ?_
  refine zV_iconst (v := (nI 0)) dX2_reachedCount_2 rfl rfl ?_
  refine zV_istore_n (lv' := [(0, .ref 44), (1, .int (nI 0)), (2, .int (nI 0))]) dX2_reachedCount_3 rfl rfl (by decide) rfl ?_
  refine z_for (fun c => zV G (eX2_reachedCount (g_rmv 1)) (0, 0) 4 [(0, .ref 44), (1, .int (nI (fb_ct (fun k => P k) (64 * c)))), (2, .int (nI c))] [] (mm I J t) _) 16 ?_ ?_ 0 (Nat.zero_le _)
  · skip
    refine zV_iload_n dX2_reachedCount_4 rfl 2 rfl rfl ?_
    refine zV_bipush (v := (nI 16)) dX2_reachedCount_5 rfl rfl ?_
    refine zN_icmp_ge (tgt := 30) dX2_reachedCount_7 rfl rfl (by omega) (by omega) (fun _ => ?_) (fun z => absurd z (by omega))
    refine zV_iload_n dX2_reachedCount_30 rfl 1 rfl rfl ?_
    exact zV_ireturn dX2_reachedCount_31 rfl rfl (⟨rfl, rfl⟩)
  · intro c hc ih
    refine zV_iload_n dX2_reachedCount_4 rfl 2 rfl rfl ?_
    refine zV_bipush (v := (nI 16)) dX2_reachedCount_5 rfl rfl ?_
    refine zN_icmp_ge (tgt := 30) dX2_reachedCount_7 rfl rfl (by omega) (by omega) (fun z => absurd z (by omega)) (fun _ => ?_)
    obtain ⟨n, hn, en, ec⟩ := wct (J := J) (r := 46) (w := c)
    have cl := fb_ct_le (fun k => P k) (64 * c)
    refine zV_iload_n dX2_reachedCount_10 rfl 1 rfl rfl ?_
    refine zV_aload_n dX2_reachedCount_11 rfl 0 rfl rfl ?_
    refine zV_getr (q' := 45) 0 dX2_reachedCount_12 rfl fl_RX2_13 rfl (by decide) rfl rfl ?_
    refine zV_iconst (v := (nI 0)) dX2_reachedCount_15 rfl rfl ?_
    refine zV_aaloadA (q' := (46 + 0)) 0 dX2_reachedCount_16 rfl rfl rfl (by decide) (by decide) (R_row (by decide)) ?_
    refine zV_iload_n dX2_reachedCount_17 rfl 2 rfl rfl ?_
    refine zV_laload c dX2_reachedCount_18 rfl (sh_row (by decide)) rfl (by omega) (by decide) ?_
    rw [show J (46 + 0) c = lN n from en]
    refine zV_callS (E' := eJ13_bitCount_95d88 (g_rmv 0)) (av := [.long (lN n)]) (st := [.int (nI (fb_ct (fun k => P k) (64 * c)))]) dX2_reachedCount_19 rfl (k_RX2_73 _) rfl ⟨by decide, by decide⟩ ⟨by decide, by decide⟩ (Or.inl rfl) rfl (Nat.le_of_ble_eq_true rfl) (c_bitCount64 (n := n) hn) (fun r19 M19 z => ?_)
    obtain ⟨rfl, rfl⟩ := z
    show zV G (eX2_reachedCount (g_rmv 1)) (0, 0) 22 [(0, .ref 44), (1, .int (nI (fb_ct (fun k => P k) (64 * c)))), (2, .int (nI c))] [.int (nI (fb_ct (fun i => n.testBit i) 64)), .int (nI (fb_ct (fun k => P k) (64 * c)))] (mm I J t) _
    refine zA_iadd (z := (nI ((fb_ct (fun k => P k) (64 * c)) + (fb_ct (fun i => n.testBit i) 64)))) dX2_reachedCount_22 rfl  (nI_add _ _) ?_
    refine zV_istore_n (lv' := [(0, .ref 44), (1, .int (nI ((fb_ct (fun k => P k) (64 * c)) + (fb_ct (fun i => n.testBit i) 64)))), (2, .int (nI c))]) dX2_reachedCount_23 rfl rfl (by decide) rfl ?_
    refine zV_iinc (y := (nI (c + 1))) (lv' := [(0, .ref 44), (1, .int (nI ((fb_ct (fun k => P k) (64 * c)) + (fb_ct (fun i => n.testBit i) 64)))), (2, .int (nI (c + 1)))]) dX2_reachedCount_24 rfl 2 rfl (nI_1 _) (by decide) rfl ?_
    refine zV_goto (tgt := 4) dX2_reachedCount_27 rfl ?_
    have ec2 : fb_ct (fun i => n.testBit i) 64 = fb_ct (fun i => P (64 * c + i)) 64 := ec.trans (fb_ct_cong (fun i hi => hP (64 * c + i) (by omega)))
    rw [show 64 * (c + 1) = 64 * c + 64 by omega, fb_ct_split, ← ec2] at ih
    exact ih
