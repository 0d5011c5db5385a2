/-! sets as ints; a coin comes; a land becomes another -/
theorem z_lsb (a i : Nat) (hi : i < 32) : (nI a).toBitVec.getLsbD i = a.testBit i := by
  show (BitVec.ofNat 32 a).getLsbD i = a.testBit i
  rw [BitVec.getLsbD_ofNat]
  simp [hi]
theorem z_m1 (i : Nat) (hi : i < 32) : (-1 : Int32).toBitVec.getLsbD i = true := by
  have h : ∀ i : Fin 32, (-1 : Int32).toBitVec.getLsbD i.val = true := by decide
  exact h ⟨i, hi⟩
theorem z_mask {n : Nat} (i : Nat) : (2 ^ n - 1).testBit i = decide (i < n) := Nat.testBit_two_pow_sub_one n i
theorem z_set {n : Nat} (hn : n ≤ 10) (x : Int32) : (x &&& (nI (2 ^ n - 1) ^^^ (-1))) = 0 ↔ ∃ j, j < 2 ^ n ∧ x = nI j := by
  have h10 := z_p10 hn
  have bits : ∀ i, i < 32 → (x &&& (nI (2 ^ n - 1) ^^^ (-1))).toBitVec.getLsbD i = (x.toBitVec.getLsbD i && !decide (i < n)) := by
    intro i hi
    rw [Int32.toBitVec_and, Int32.toBitVec_xor, BitVec.getLsbD_and, BitVec.getLsbD_xor, z_lsb _ _ hi, z_m1 i hi, z_mask]
    simp
  constructor
  · intro h
    have e : x = x &&& nI (2 ^ n - 1) := by
      apply Int32.toBitVec_inj.1
      apply BitVec.eq_of_getLsbD_eq
      intro i hi
      have hb := bits i hi
      rw [h] at hb
      rw [Int32.toBitVec_and, BitVec.getLsbD_and, z_lsb _ _ hi, z_mask]
      have hz : (0 : Int32).toBitVec.getLsbD i = false := by
        show (BitVec.ofNat 32 0).getLsbD i = false
        simp
      rw [hz] at hb
      cases hx : x.toBitVec.getLsbD i <;> simp_all
    rw [pk_and x n (by rw [pk_tn (by omega)])] at e
    exact ⟨_, Nat.mod_lt _ (Nat.two_pow_pos n), e⟩
  · rintro ⟨j, hj, rfl⟩
    apply Int32.toBitVec_inj.1
    apply BitVec.eq_of_getLsbD_eq
    intro i hi
    rw [bits i hi, z_lsb _ _ hi]
    show _ = (BitVec.ofNat 32 0).getLsbD i
    by_cases hin : i < n
    · simp [hin]
    · rw [Nat.testBit_lt_two_pow (Nat.lt_of_lt_of_le hj (Nat.pow_le_pow_right (by decide) (by omega)))]
      simp
abbrev isSet (n : Nat) (x : Int32) : Prop := 0 ≤ x ∧ x ≤ nI (2 ^ n - 1)
theorem isSet_iff {n : Nat} (hn : n ≤ 10) (x : Int32) : isSet n x ↔ ∃ j, j < 2 ^ n ∧ x = nI j := by
  have h10 := z_p10 hn
  have h0 := Nat.two_pow_pos n
  constructor
  · rintro ⟨h1, h2⟩
    obtain ⟨j, hj, rfl⟩ := nI_of (fun z => absurd h1 (Int32.not_le.mpr z))
    exact ⟨j, by have := (nI_leI hj (show 2 ^ n - 1 < 2 ^ 31 by omega)).mp h2; omega, rfl⟩
  · rintro ⟨j, hj, rfl⟩
    exact ⟨nI_pos' (by omega), nI_le (by omega) (by omega)⟩
theorem absL.add {I I' : Nat → Nat → Int32} {b : Nat} {σ : aL} {kd kg sp : Nat} (h : absL I b σ) (h2 : I' b 2 = nI (σ.1 + 1)) (h3 : I' b 3 = I b 3) (h4 : I' b 4 = I b 4) (hs : ∀ s, I' (b + 2) s = I (b + 2) s) (ho : ∀ c, c < σ.1 → ∀ f, I' (b + 3 + c) f = I (b + 3 + c) f) (f0 : I' (b + 3 + σ.1) 0 = nI kd) (f1 : I' (b + 3 + σ.1) 1 = nI 0) (f2 : I' (b + 3 + σ.1) 2 = nI kg) (f3 : I' (b + 3 + σ.1) 3 = nI sp) (f4 : I' (b + 3 + σ.1) 4 = nI 0) (f5 : I' (b + 3 + σ.1) 5 = nI 0) : absL I' b (ld_add σ kd kg sp) := by
  refine ⟨h2, fun c hc f hf => ?_, fun s h9 => (hs s).trans (h.2.2.1 s h9), h3.trans h.2.2.2.1, h4.trans h.2.2.2.2⟩
  have hc' : c < σ.1 + 1 := hc
  show _ = nI ((if c = σ.1 then (fun f => if f = 0 then kd else if f = 2 then kg else if f = 3 then sp else 0) else σ.2.1 c) f)
  by_cases e : c = σ.1
  · subst e
    rw [if_pos rfl]
    rcases (show f = 0 ∨ f = 1 ∨ f = 2 ∨ f = 3 ∨ f = 4 ∨ f = 5 by omega) with rfl | rfl | rfl | rfl | rfl | rfl
    · exact f0
    · exact f1
    · exact f2
    · exact f3
    · exact f4
    · exact f5
  · rw [if_neg e, ho c (by omega)]
    exact h.2.1 c (by omega) f hf
theorem absL.z {I I' : Nat → Nat → Int32} {b : Nat} {σ : aL} {z : Int32} (h : absL I b σ) (e : I' = up2 I b 4 z) : absL I' b (ld_z σ z) := by
  subst e
  have e2 : b + 2 ≠ b := by omega
  refine ⟨by rw [up2_nk (by decide)]; exact h.1, fun c hc f hf => ?_, fun s hs => ?_, by rw [up2_nk (by decide)]; exact h.2.2.2.1, up2_same _ _ _ _⟩
  · rw [up2_ni (by omega)]
    exact h.2.1 c hc f hf
  · rw [up2_ni e2]
    exact h.2.2.1 s hs
theorem absL.day {I I' : Nat → Nat → Int32} {b : Nat} {σ : aL} {d : Nat} (h : absL I b σ) (e : I' = up2 I b 3 (nI d)) : absL I' b (ld_day σ d) := by
  subst e
  have e2 : b + 2 ≠ b := by omega
  refine ⟨by rw [up2_nk (by decide)]; exact h.1, fun c hc f hf => ?_, fun s hs => ?_, up2_same _ _ _ _, by rw [up2_nk (by decide)]; exact h.2.2.2.2⟩
  · rw [up2_ni (by omega)]
    exact h.2.1 c hc f hf
  · rw [up2_ni e2]
    exact h.2.2.1 s hs
theorem frL.b {b k : Nat} {I : Nat → Nat → Int32} {v : Int32} : frL b I (up2 I b k v) := fun i hi => by
  funext f
  rw [up2_ni (by omega)]
theorem wf_add {B : Nat} {σ : aL} {kd kg sp : Nat} (h : wfL B σ) (hn : σ.1 < 10) (h0 : kd < 7) (h2 : kg < 100) (h3 : sp < 100) : wfL B (ld_add σ kd kg sp) := by
  refine ⟨hn, fun c hc => ?_, h.2.2.1, h.2.2.2⟩
  have hc' : c < σ.1 + 1 := hc
  show wfK B (if c = σ.1 then _ else _)
  split
  · exact ⟨h0, show (0 : Nat) < 4 by decide, h2, h3, show (0 : Nat) < 2 by decide, Nat.zero_le _, h.2.2.2⟩
  · exact h.2.1 c (by omega)
theorem isLand.ne {a b : Nat} (ha : isLand a) (hb : isLand b) (h : a ≠ b) : a + 13 ≤ b ∨ b + 13 ≤ a := by
  rcases ha with rfl | rfl | rfl <;> rcases hb with rfl | rfl | rfl <;> omega
