/-! REACH: rows of bits, sums that are reached -/
theorem wb_tb (n : Nat) : (lN n).toBitVec = BitVec.ofNat 64 n := rfl
theorem wb_inj {a b : Int64} (h : a.toBitVec = b.toBitVec) : a = b := Int64.toBitVec_inj.mp h
theorem wb_tn {n : Nat} (h : n < 2 ^ 64) : (lN n).toBitVec.toNat = n := by rw [wb_tb, BitVec.toNat_ofNat, Nat.mod_eq_of_lt h]
theorem wb_of (x : Int64) : ∃ n, n < 2 ^ 64 ∧ x = lN n := ⟨x.toBitVec.toNat, x.toBitVec.isLt, wb_inj (by rw [wb_tb]; simp)⟩
theorem wb_of32 (x : Int32) : ∃ n, n < 2 ^ 32 ∧ x = nI n := ⟨x.toBitVec.toNat, x.toBitVec.isLt, Int32.toBitVec_inj.mp (by show _ = BitVec.ofNat 32 _; simp)⟩
theorem wb_c : ∀ k, k < 64 → ((nI k).toInt64 &&& 63) = lN k := by decide +kernel
theorem wb_cu : ∀ k, k < 64 → ((nI k).toInt64.toUInt64 &&& Int64.toUInt64 63) = UInt64.ofNat k := by decide +kernel
theorem wb_sm : ∀ k, k < 64 → (BitVec.ofNat 64 k).smod 64 = BitVec.ofNat 64 k := by decide +kernel
theorem wb_pw {a b : Nat} (h : a ≤ b) : 2 ^ b = 2 ^ a * 2 ^ (b - a) := by rw [← Nat.pow_add]; congr 1; omega
theorem wb_lt2 {a b : Nat} (h : a < b) : 2 ^ a < 2 ^ b := Nat.pow_lt_pow_right (by decide) h
theorem wb_mod (n : Nat) : lN n = lN (n % 2 ^ 64) := wb_inj (by rw [wb_tb, wb_tb]; apply BitVec.eq_of_toNat_eq; rw [BitVec.toNat_ofNat, BitVec.toNat_ofNat, Nat.mod_mod])
theorem wb_shr {n k : Nat} (hn : n < 2 ^ 64) (hk : k < 64) : ((lN n).toUInt64 >>> ((nI k).toInt64.toUInt64 &&& Int64.toUInt64 63)).toInt64 = lN (n / 2 ^ k) := by
  rw [wb_cu k hk]
  apply wb_inj
  apply BitVec.eq_of_toNat_eq
  show ((lN n).toUInt64 >>> UInt64.ofNat k).toNat = (BitVec.ofNat 64 _).toNat
  have h1 : (UInt64.ofNat k).toNat = k := by
    show (BitVec.ofNat 64 k).toNat = k
    rw [BitVec.toNat_ofNat, Nat.mod_eq_of_lt (by omega)]
  have h2 : (lN n).toUInt64.toNat = n := wb_tn hn
  rw [UInt64.toNat_shiftRight, h1, h2, Nat.mod_eq_of_lt hk, Nat.shiftRight_eq_div_pow, BitVec.toNat_ofNat, Nat.mod_eq_of_lt (Nat.lt_of_le_of_lt (Nat.div_le_self _ _) hn)]
theorem wb_shl (n : Nat) {k : Nat} (hk : k < 64) : lN n <<< ((nI k).toInt64 &&& 63) = lN (n * 2 ^ k) := by
  rw [wb_c k hk]
  apply wb_inj
  rw [Int64.toBitVec_shiftLeft, wb_tb, wb_tb, wb_tb, wb_sm k hk]
  apply BitVec.eq_of_toNat_eq
  rw [BitVec.shiftLeft_eq', BitVec.toNat_shiftLeft, BitVec.toNat_ofNat, BitVec.toNat_ofNat, BitVec.toNat_ofNat, Nat.mod_eq_of_lt (show k < 2 ^ 64 by omega), Nat.shiftLeft_eq, Nat.mul_mod, Nat.mod_mod, ← Nat.mul_mod]
theorem wb_and {a b : Nat} (ha : a < 2 ^ 64) (hb : b < 2 ^ 64) : lN a &&& lN b = lN (a &&& b) := by
  apply wb_inj
  rw [Int64.toBitVec_and, wb_tb, wb_tb, wb_tb]
  apply BitVec.eq_of_toNat_eq
  rw [BitVec.toNat_and, BitVec.toNat_ofNat, BitVec.toNat_ofNat, BitVec.toNat_ofNat, Nat.mod_eq_of_lt ha, Nat.mod_eq_of_lt hb, Nat.mod_eq_of_lt (Nat.and_lt_two_pow _ hb)]
theorem wb_or {a b : Nat} (ha : a < 2 ^ 64) (hb : b < 2 ^ 64) : lN a ||| lN b = lN (a ||| b) := by
  apply wb_inj
  rw [Int64.toBitVec_or, wb_tb, wb_tb, wb_tb]
  apply BitVec.eq_of_toNat_eq
  rw [BitVec.toNat_or, BitVec.toNat_ofNat, BitVec.toNat_ofNat, BitVec.toNat_ofNat, Nat.mod_eq_of_lt ha, Nat.mod_eq_of_lt hb, Nat.mod_eq_of_lt (Nat.or_lt_two_pow ha hb)]
theorem wb_mask {n k : Nat} (hn : n < 2 ^ 64) (hk : k < 64) : lN n &&& lN (2 ^ k - 1) = lN (n % 2 ^ k) := by
  rw [wb_and hn (by have := wb_lt2 hk; omega), Nat.and_two_pow_sub_one_eq_mod]
theorem wb_a1 {n : Nat} (hn : n < 2 ^ 64) : lN n &&& 1 = lN (n % 2) := wb_mask (k := 1) hn (by decide)
theorem wb_bit {n k : Nat} (hn : n < 2 ^ 64) (hk : k < 64) : ((lN n).toUInt64 >>> ((nI k).toInt64.toUInt64 &&& Int64.toUInt64 63)).toInt64 &&& 1 = lN (n / 2 ^ k % 2) := by
  rw [wb_shr hn hk, wb_a1 (Nat.lt_of_le_of_lt (Nat.div_le_self _ _) hn)]
def sh_l (x : Int64) (b : Nat) : Int64 := x <<< ((nI b).toInt64 &&& 63)
def sh_u (x : Int64) (b : Nat) : Int64 := (x.toUInt64 >>> ((nI b).toInt64.toUInt64 &&& Int64.toUInt64 63)).toInt64
theorem lN_bit (n : Nat) {i : Nat} (hi : i < 64) : (lN n).toBitVec.getLsbD i = n.testBit i := by
  rw [wb_tb, BitVec.getLsbD_ofNat, decide_eq_true hi, Bool.true_and]
theorem sh_l_bit (x : Int64) {b i : Nat} (hb : b < 64) (hi : i < 64) : (sh_l x b).toBitVec.getLsbD i = (decide (b ≤ i) && x.toBitVec.getLsbD (i - b)) := by
  obtain ⟨n, hn, rfl⟩ := wb_of x
  unfold sh_l
  rw [wb_shl n hb, lN_bit _ hi, Nat.testBit_mul_two_pow, lN_bit _ (by omega)]
theorem sh_u_bit (x : Int64) {b i : Nat} (hb : b < 64) (hi : i < 64) : (sh_u x b).toBitVec.getLsbD i = (decide (i + b < 64) && x.toBitVec.getLsbD (i + b)) := by
  obtain ⟨n, hn, rfl⟩ := wb_of x
  unfold sh_u
  rw [wb_shr hn hb, lN_bit _ hi, Nat.testBit_div_two_pow]
  by_cases h : i + b < 64
  · rw [lN_bit _ h, decide_eq_true h, Bool.true_and]
  · rw [decide_eq_false h, Bool.false_and]
    exact Nat.testBit_lt_two_pow (Nat.lt_of_lt_of_le hn (Nat.pow_le_pow_right (by decide) (by omega)))
theorem z_bit64 (x : Int64) {n : Nat} (hn : n < 64) : (x >>> ((nI n).toInt64 &&& 63)) &&& 1 = 0 ↔ x.toBitVec.getLsbD n = false := by
  have e1 : ∀ i, i < 64 → ((x >>> ((nI n).toInt64 &&& 63)) &&& 1).toBitVec.getLsbD i = (decide (i = 0) && x.toBitVec.getLsbD n) := by
    intro i hi
    have e2 : (1 : Int64).toBitVec = BitVec.ofNat 64 1 := rfl
    rw [Int64.toBitVec_and, BitVec.getLsbD_and, e2, BitVec.getLsbD_ofNat, wb_c n hn, Int64.toBitVec_shiftRight, wb_tb, wb_sm n hn, BitVec.getLsbD_sshiftRight', BitVec.toNat_ofNat, Nat.mod_eq_of_lt (show n < 2 ^ 64 by omega)]
    by_cases h0 : i = 0
    · subst h0
      simp [hn]
    · rw [show Nat.testBit 1 i = false from by rw [show (1 : Nat) = 2 ^ 0 from rfl]; exact Nat.testBit_two_pow_of_ne (by omega), Bool.and_false, Bool.and_false, decide_eq_false h0, Bool.false_and]
  constructor
  · intro h
    have h0 := e1 0 (by decide)
    rw [h] at h0
    have h1 : (0 : Int64).toBitVec.getLsbD 0 = false := by decide
    rw [h1] at h0
    simpa using h0.symm
  · intro h
    apply Int64.toBitVec_inj.1
    apply BitVec.eq_of_getLsbD_eq
    intro i hi
    rw [e1 i hi, h, Bool.and_false]
    show false = (BitVec.ofNat 64 0).getLsbD i
    simp
def jb (J : Nat → Nat → Int64) (r k : Nat) : Bool := (J r (k / 64)).toBitVec.getLsbD (k % 64)
/-- what one more coin adds to a word -/
def spM (f : Nat → Int64) (a b w : Nat) : Int64 := if w < a then 0 else if w = a ∨ b = 0 then sh_l (f (w - a)) b else sh_l (f (w - a)) b ||| sh_u (f (w - a - 1)) (64 - b)
def spW (f : Nat → Int64) (n w : Nat) : Int64 := f w ||| spM f (n / 64) (n % 64) w
theorem z64_0 (i : Nat) : (0 : Int64).toBitVec.getLsbD i = false := by
  show (BitVec.ofNat 64 0).getLsbD i = false
  simp
theorem spM_bit (f : Nat → Int64) {n w i : Nat} (hi : i < 64) : (spM f (n / 64) (n % 64) w).toBitVec.getLsbD i = (decide (n ≤ 64 * w + i) && (f ((64 * w + i - n) / 64)).toBitVec.getLsbD ((64 * w + i - n) % 64)) := by
  have hb : n % 64 < 64 := Nat.mod_lt _ (by decide)
  unfold spM
  by_cases h1 : w < n / 64
  · rw [if_pos h1, z64_0, decide_eq_false (by omega), Bool.false_and]
  · rw [if_neg h1]
    by_cases h2 : w = n / 64 ∨ n % 64 = 0
    · rw [if_pos h2, sh_l_bit _ hb hi]
      by_cases h3 : n % 64 ≤ i
      · rw [decide_eq_true h3, decide_eq_true (by omega), show (64 * w + i - n) / 64 = w - n / 64 by omega, show (64 * w + i - n) % 64 = i - n % 64 by omega]
      · rw [decide_eq_false h3, decide_eq_false (by omega), Bool.false_and, Bool.false_and]
    · rw [if_neg h2, Int64.toBitVec_or, BitVec.getLsbD_or, sh_l_bit _ hb hi, sh_u_bit _ (by omega) hi]
      by_cases h3 : n % 64 ≤ i
      · rw [decide_eq_true h3, decide_eq_false (by omega : ¬ i + (64 - n % 64) < 64), Bool.false_and, Bool.or_false, decide_eq_true (by omega), show (64 * w + i - n) / 64 = w - n / 64 by omega, show (64 * w + i - n) % 64 = i - n % 64 by omega]
      · rw [decide_eq_false h3, Bool.false_and, Bool.false_or, decide_eq_true (by omega : i + (64 - n % 64) < 64), decide_eq_true (by omega), show (64 * w + i - n) / 64 = w - n / 64 - 1 by omega, show (64 * w + i - n) % 64 = i + (64 - n % 64) by omega]
def spr (P : Nat → Bool) (n k : Nat) : Bool := P k || (decide (n ≤ k) && P (k - n))
theorem spW_jb {J J' : Nat → Nat → Int64} {r r' n W : Nat} (h : ∀ w, w < W → J' r' w = spW (J r) n w) {k : Nat} (hk : k < 64 * W) : jb J' r' k = spr (jb J r) n k := by
  unfold jb spr
  have hi : k % 64 < 64 := Nat.mod_lt _ (by decide)
  rw [h (k / 64) (by omega)]
  unfold spW
  rw [Int64.toBitVec_or, BitVec.getLsbD_or, spM_bit _ hi, show 64 * (k / 64) + k % 64 = k by omega]
theorem spr_cong {P Q : Nat → Bool} {n N k : Nat} (h : ∀ j, j < N → P j = Q j) (hk : k < N) : spr P n k = spr Q n k := by
  unfold spr
  rw [h k hk, h (k - n) (by omega)]
/-- what the coins of a set reach -/
def rch (f : Nat → Nat) (s : Nat) : Nat → Nat → Bool
  | 0 => fun k => decide (k = 0)
  | c + 1 => if s.testBit c = true then spr (rch f s c) (f c) else rch f s c
theorem rch_t {f : Nat → Nat} {s c : Nat} (h : s.testBit c = true) : rch f s (c + 1) = spr (rch f s c) (f c) := if_pos h
theorem rch_f {f : Nat → Nat} {s c : Nat} (h : ¬ s.testBit c = true) : rch f s (c + 1) = rch f s c := if_neg h
def smt (f : Nat → Nat) (t n : Nat) : Nat := fb_sm (fun c => if t.testBit c then f c else 0) n
theorem smt_hi {f : Nat → Nat} {t c : Nat} (ht : t < 2 ^ c) : smt f (2 ^ c + t) (c + 1) = smt f t c + f c := by
  unfold smt
  rw [fb_sm_succ, Nat.testBit_two_pow_add_eq, Nat.testBit_lt_two_pow ht]
  show _ + f c = _
  congr 1
  refine fb_sm_cong (fun k hk => ?_)
  rw [Nat.testBit_two_pow_add_gt hk]
theorem smt_lo {f : Nat → Nat} {t c : Nat} (ht : ¬ t.testBit c = true) : smt f t (c + 1) = smt f t c := by
  unfold smt
  rw [fb_sm_succ, if_neg ht]
  rfl
theorem bit_lo {t c : Nat} (h : t < 2 ^ (c + 1)) (hb : ¬ t.testBit c = true) : t < 2 ^ c := by
  rw [Nat.testBit_eq_decide_div_mod_eq, decide_eq_true_eq] at hb
  have h2 : 2 ^ (c + 1) = 2 ^ c + 2 ^ c := by rw [Nat.pow_succ]; omega
  have h3 : t / 2 ^ c < 2 := (Nat.div_lt_iff_lt_mul (Nat.two_pow_pos c)).mpr (by omega)
  have h4 : t / 2 ^ c = 0 := by
    generalize t / 2 ^ c = q at h3 hb ⊢
    omega
  exact (Nat.div_eq_zero_iff_lt (Nat.two_pow_pos c)).mp h4
theorem bit_hi {t c : Nat} (h : t < 2 ^ (c + 1)) (hb : t.testBit c = true) : ∃ t', t' < 2 ^ c ∧ t = 2 ^ c + t' := by
  have h2 : 2 ^ (c + 1) = 2 ^ c + 2 ^ c := by rw [Nat.pow_succ]; omega
  have h3 : 2 ^ c ≤ t := Nat.ge_two_pow_of_testBit hb
  exact ⟨t - 2 ^ c, by omega, by omega⟩
theorem rch_iff {f : Nat → Nat} {s : Nat} : ∀ n k, rch f s n k = true ↔ ∃ t, isSub s t = true ∧ t < 2 ^ n ∧ smt f t n = k
  | 0, k => by
    show decide (k = 0) = true ↔ _
    rw [decide_eq_true_iff]
    constructor
    · intro h
      exact ⟨0, isSub_iff.mpr (fun i hi => by rw [Nat.zero_testBit] at hi; cases hi), Nat.one_pos, h.symm⟩
    · rintro ⟨t, _, _, h⟩
      exact h.symm
  | n + 1, k => by
    have h2 : 2 ^ (n + 1) = 2 ^ n + 2 ^ n := by rw [Nat.pow_succ]; omega
    by_cases hb : s.testBit n = true
    · rw [rch_t hb]
      unfold spr
      rw [Bool.or_eq_true, Bool.and_eq_true, decide_eq_true_iff, rch_iff n k, rch_iff n (k - f n)]
      constructor
      · rintro (⟨t, h1, h3, h4⟩ | ⟨hk, t, h1, h3, h4⟩)
        · exact ⟨t, h1, by omega, by rw [smt_lo (by rw [Nat.testBit_lt_two_pow h3]; decide)]; exact h4⟩
        · exact ⟨2 ^ n + t, by rw [isSub_hi h3 hb]; exact h1, by omega, by rw [smt_hi h3, h4]; omega⟩
      · rintro ⟨t, h1, h3, h4⟩
        by_cases ht : t.testBit n = true
        · obtain ⟨t', h5, rfl⟩ := bit_hi h3 ht
          rw [smt_hi h5] at h4
          exact Or.inr ⟨by omega, t', by rw [isSub_hi h5 hb] at h1; exact h1, h5, by omega⟩
        · rw [smt_lo ht] at h4
          exact Or.inl ⟨t, h1, bit_lo h3 ht, h4⟩
    · rw [rch_f hb, rch_iff n k]
      constructor
      · rintro ⟨t, h1, h3, h4⟩
        exact ⟨t, h1, by omega, by rw [smt_lo (by rw [Nat.testBit_lt_two_pow h3]; decide)]; exact h4⟩
      · rintro ⟨t, h1, h3, h4⟩
        have ht : ¬ t.testBit n = true := fun z => hb (isSub_iff.mp h1 n z)
        rw [smt_lo ht] at h4
        exact ⟨t, h1, bit_lo h3 ht, h4⟩
def rcd (σ : aL) (s v : Nat) : Bool := rch (fun c => k_now (σ.2.1 c)) s σ.1 v
theorem rcd_iff {σ : aL} {s v : Nat} (hs : s < 2 ^ σ.1) : rcd σ s v = true ↔ ∃ t, isSub s t = true ∧ ld_sum σ t = v := by
  unfold rcd
  rw [rch_iff]
  constructor
  · rintro ⟨t, h1, _, h2⟩
    exact ⟨t, h1, h2⟩
  · rintro ⟨t, h1, h2⟩
    exact ⟨t, h1, Nat.lt_of_le_of_lt (isSub_le h1) hs, h2⟩
theorem rcd_le {B : Nat} {σ : aL} (h : wfL B σ) {s v : Nat} (hs : s < 2 ^ σ.1) (hv : rcd σ s v = true) : v ≤ 1000 := by
  obtain ⟨t, _, e⟩ := (rcd_iff hs).mp hv
  rw [← e]
  exact ld_sum_le h t
theorem fo_any {p : Nat → Bool} {s : Nat} : ∀ m, fo (fun b t => b || p t) false s m = true ↔ ∃ t, t < m ∧ isSub s t = true ∧ p t = true
  | 0 => by
    show false = true ↔ _
    exact ⟨fun h => (by cases h), fun ⟨t, h, _⟩ => absurd h (Nat.not_lt_zero _)⟩
  | m + 1 => by
    show (if isSub s m = true then (fo (fun b t => b || p t) false s m || p m) else fo (fun b t => b || p t) false s m) = true ↔ _
    by_cases hb : isSub s m = true
    · rw [if_pos hb, Bool.or_eq_true, fo_any m]
      constructor
      · rintro (⟨t, h1, h2, h3⟩ | h)
        · exact ⟨t, by omega, h2, h3⟩
        · exact ⟨m, by omega, hb, h⟩
      · rintro ⟨t, h1, h2, h3⟩
        by_cases e : t = m
        · subst e; exact Or.inr h3
        · exact Or.inl ⟨t, by omega, h2, h3⟩
    · rw [if_neg hb, fo_any m]
      constructor
      · rintro ⟨t, h1, h2, h3⟩
        exact ⟨t, by omega, h2, h3⟩
      · rintro ⟨t, h1, h2, h3⟩
        refine ⟨t, ?_, h2, h3⟩
        by_cases e : t = m
        · subst e; exact absurd h2 hb
        · omega
/-- sums seen among the sets below m -/
def seen (σ : aL) (s m v : Nat) : Bool := fo (fun b t => b || decide (ld_sum σ t = v)) false s m
theorem seen_s {σ : aL} {s m v : Nat} : seen σ s (m + 1) v = if isSub s m = true then (seen σ s m v || decide (ld_sum σ m = v)) else seen σ s m v := rfl
theorem seen_rcd {σ : aL} {s v : Nat} (hs : s < 2 ^ σ.1) : seen σ s (s + 1) v = rcd σ s v := by
  rw [Bool.eq_iff_iff, rcd_iff hs]
  unfold seen
  rw [fo_any]
  constructor
  · rintro ⟨t, _, h1, h2⟩
    exact ⟨t, h1, of_decide_eq_true h2⟩
  · rintro ⟨t, h1, h2⟩
    exact ⟨t, by have := isSub_le h1; omega, h1, decide_eq_true h2⟩
theorem fn1_any {p : Nat → Bool} {s : Nat} : ∀ m, (fo (fn1 p) none s m).isSome = fo (fun b t => b || p t) false s m
  | 0 => rfl
  | m + 1 => by
    show (if isSub s m = true then fn1 p (fo (fn1 p) none s m) m else fo (fn1 p) none s m).isSome = (if isSub s m = true then (fo (fun b t => b || p t) false s m || p m) else fo (fun b t => b || p t) false s m)
    have ih := fn1_any (p := p) (s := s) m
    by_cases hb : isSub s m = true
    · rw [if_pos hb, if_pos hb, ← ih]
      cases e : fo (fn1 p) none s m with
      | some x => rfl
      | none =>
        show (if p m = true then some m else none).isSome = (false || p m)
        cases p m <;> rfl
    · rw [if_neg hb, if_neg hb, ih]
theorem with_rcd {σ : aL} {s v : Nat} (hs : s < 2 ^ σ.1) : (ld_with σ s v).isSome = rcd σ s v := by
  unfold ld_with
  rw [fn1_any]
  exact seen_rcd hs
def op_sums (S : aS) (x : Int32) : Int32 × aS := if inR x 3 then (nI (fb_ct (fun v => rcd S.1 (ld_in S.1 (tn x)) v) 1001), S) else fnd S 0
/-- how many sums behind a lie behind one another that are reached, at most n -/
def fun0 (σ : aL) (s a n : Nat) : Nat := fa_first (fun i => !rcd σ s (a + i)) n
def op_cannot (S : aS) (x : Int32) : Int32 × aS := if inR x 3 then (nI (1 + fun0 S.1 (ld_in S.1 (tn x)) 1 1000), S) else fnd S 0
def dth (σ : aL) (p q : Nat) : Nat := fun0 σ (ld_u σ p q) (ld_sum σ (ld_in σ q) + 1) 999
def op_dearth (S : aS) (x y : Int32) : Int32 × aS := if twoP x y then (if dth S.1 (tn x) (tn y) < 999 then (nI (dth S.1 (tn x) (tn y) + 1), S) else fnd S 3) else fnd S 0
theorem fst_end {p : Nat → Bool} {n : Nat} (h : ∀ i, i < n → p i = false) : fa_first p n = n := by
  have h1 := fst_no h
  have h2 := fa_first_le p n
  omega
/-- first beyond a bound: a lesser bound tells as much -/
theorem fst_cut {p : Nat → Bool} {n m : Nat} (h : m ≤ n) : fa_first p m = min m (fa_first p n) := by
  have h1 := fa_first_no p m
  have h2 := fa_first_le p m
  have h3 := fa_first_no p n
  have h4 := fa_first_le p n
  by_cases e : fa_first p n < m
  · have hy : p (fa_first p n) = true := fa_first_yes p n (by omega)
    rw [fst_is e h3 hy]
    omega
  · rw [fst_end (fun i hi => h3 i (by omega))]
    omega
