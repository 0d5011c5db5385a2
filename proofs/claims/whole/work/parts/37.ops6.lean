/-! THE PUBLIC METHODS (6): least sets -/
def tsm (e : Nat → Int32) (t : Nat) : Nat → Int32
  | 0 => nI 0
  | c + 1 => if t.testBit c = true then tsm e t c + e c else tsm e t c
theorem tsm_0 (e : Nat → Int32) : ∀ n, tsm e 0 n = nI 0
  | 0 => rfl
  | n + 1 => by
    show (if (0 : Nat).testBit n = true then _ else _) = _
    rw [Nat.zero_testBit, if_neg (by decide)]
    exact tsm_0 e n
theorem tsm_top {e : Nat → Int32} {t c : Nat} (ht : t < 2 ^ c) : ∀ n, tsm e t (c + n) = tsm e t c
  | 0 => rfl
  | n + 1 => by
    show (if t.testBit (c + n) = true then _ else _) = _
    rw [Nat.testBit_lt_two_pow (Nat.lt_of_lt_of_le ht (Nat.pow_le_pow_right (by decide) (by omega))), if_neg (by decide)]
    exact tsm_top ht n
theorem tsm_low {e : Nat → Int32} {t c : Nat} : ∀ n, n ≤ c → tsm e (t + 2 ^ c) n = tsm e t n
  | 0, _ => rfl
  | n + 1, hn => by
    show (if (t + 2 ^ c).testBit n = true then _ else _) = (if t.testBit n = true then _ else _)
    rw [Nat.add_comm t, Nat.testBit_two_pow_add_gt (by omega), Nat.add_comm, tsm_low n (by omega)]
theorem tsm_add {e : Nat → Int32} {t c : Nat} (ht : t < 2 ^ c) (hc : c < 10) : tsm e (t + 2 ^ c) 10 = tsm e t 10 + e c := by
  have h2 : 2 ^ (c + 1) = 2 ^ c + 2 ^ c := by rw [Nat.pow_succ]; omega
  have h3 := tsm_top (e := e) (t := t + 2 ^ c) (c := c + 1) (by omega) (10 - (c + 1))
  have h4 := tsm_top (e := e) ht (10 - c)
  rw [show c + 1 + (10 - (c + 1)) = 10 by omega] at h3
  rw [show c + (10 - c) = 10 by omega] at h4
  rw [h3, h4]
  show (if (t + 2 ^ c).testBit c = true then _ else _) = _
  rw [Nat.add_comm t, Nat.testBit_two_pow_add_eq, Nat.testBit_lt_two_pow ht, Nat.add_comm, tsm_low c (Nat.le_refl _)]
  rfl
theorem slc_t {s c : Nat} (h : s.testBit c = true) : slc s (c + 1) = slc s c + slc s c := if_pos h
theorem slc_f {s c : Nat} (h : ¬ s.testBit c = true) : slc s (c + 1) = slc s c := if_neg h
theorem slf_t {s c i : Nat} (h : s.testBit c = true) : slf s (c + 1) i = if i < slc s c then slf s c i else slf s c (i - slc s c) + 2 ^ c := if_pos h
theorem slf_f {s c i : Nat} (h : ¬ s.testBit c = true) : slf s (c + 1) i = slf s c i := if_neg h
theorem slf_sub (s : Nat) : ∀ c i, i < slc s c → isSub s (slf s c i) = true
  | 0, _, _ => isSub_iff.mpr (fun i hi => by rw [show slf s 0 _ = 0 from rfl, Nat.zero_testBit] at hi; cases hi)
  | c + 1, i, hi => by
    by_cases hb : s.testBit c = true
    · rw [slc_t hb] at hi
      rw [slf_t hb]
      by_cases h1 : i < slc s c
      · rw [if_pos h1]; exact slf_sub s c i h1
      · rw [if_neg h1, Nat.add_comm, isSub_hi (slf_lt s c _ (by omega)) hb]
        exact slf_sub s c _ (by omega)
    · rw [slc_f hb] at hi
      rw [slf_f hb]
      exact slf_sub s c i hi
/-- the first with a property -/
def fn1 (p : Nat → Bool) (a : Option Nat) (t : Nat) : Option Nat := match a with
  | some x => some x
  | none => if p t = true then some t else none
theorem fc_none {p : Nat → Bool} {f : Nat → Nat} : ∀ {m : Nat}, (∀ i, i < m → p (f i) = false) → fc (fn1 p) none f m = none
  | 0, _ => rfl
  | m + 1, h => by
    show fn1 p (fc (fn1 p) none f m) (f m) = none
    rw [fc_none (fun i hi => h i (by omega))]
    show (if p (f m) = true then _ else _) = _
    rw [h m (by omega), if_neg (by decide)]
theorem fc_some {p : Nat → Bool} {f : Nat → Nat} {c : Nat} (h : ∀ i, i < c → p (f i) = false) (hy : p (f c) = true) : ∀ n, fc (fn1 p) none f (c + 1 + n) = some (f c)
  | 0 => by
    show fn1 p (fc (fn1 p) none f c) (f c) = _
    rw [fc_none h]
    show (if p (f c) = true then _ else _) = _
    rw [if_pos hy]
  | n + 1 => by
    show fn1 p (fc (fn1 p) none f (c + 1 + n)) _ = _
    rw [fc_some h hy n]
    rfl
theorem fo_none {p : Nat → Bool} {s : Nat} : ∀ {m : Nat}, (∀ i, i < m → isSub s i = true → p i = false) → fo (fn1 p) none s m = none
  | 0, _ => rfl
  | m + 1, h => by
    show (if isSub s m = true then fn1 p (fo (fn1 p) none s m) m else fo (fn1 p) none s m) = none
    rw [fo_none (fun i hi => h i (by omega))]
    by_cases hb : isSub s m = true
    · rw [if_pos hb]
      show (if p m = true then _ else _) = _
      rw [h m (by omega) hb, if_neg (by decide)]
    · rw [if_neg hb]
theorem fo_some {p : Nat → Bool} {s c : Nat} (h : ∀ i, i < c → isSub s i = true → p i = false) (hb : isSub s c = true) (hy : p c = true) : ∀ n, fo (fn1 p) none s (c + 1 + n) = some c
  | 0 => by
    show (if isSub s c = true then fn1 p (fo (fn1 p) none s c) c else fo (fn1 p) none s c) = _
    rw [fo_none h, if_pos hb]
    show (if p c = true then _ else _) = _
    rw [if_pos hy]
  | n + 1 => by
    show (if isSub s (c + 1 + n) = true then fn1 p (fo (fn1 p) none s (c + 1 + n)) _ else fo (fn1 p) none s (c + 1 + n)) = _
    rw [fo_some h hb hy n]
    split <;> rfl
def ans (o : Option Nat) : Int32 := match o with
  | none => -1
  | some t => nI t
/-- the least set of some coins worth v -/
def ld_with (σ : aL) (s v : Nat) : Option Nat := fo (fn1 (fun t => decide (ld_sum σ t = v))) none s (s + 1)
theorem ld_with_c {σ : aL} {s v : Nat} (hs : s < 1024) : ld_with σ s v = fc (fn1 (fun t => decide (ld_sum σ t = v))) none (slf s 10) (slc s 10) := (subs_all hs _ _).symm
def op_with (S : aS) (x y : Int32) : Int32 × aS := if inR x 3 then (if inR y 999 then (match ld_with S.1 (ld_in S.1 (tn x)) (tn y) with
  | none => fnd S 3
  | some t => (nI t, S)) else fnd S 0) else fnd S 0
def op_can (S : aS) (x y : Int32) : Int32 × aS := if inR x 3 then (if inR y 999 then (match ld_with S.1 (ld_in S.1 (tn x)) (tn y) with
  | none => (nI 0, S)
  | some _ => (nI 1, S)) else fnd S 0) else fnd S 0
/-- the bits of a set of coins are coins -/
theorem set_bit {n s c : Nat} (hs : s < 2 ^ n) (h : s.testBit c = true) : c < n := Classical.byContradiction fun hc => by
  rw [Nat.testBit_lt_two_pow (Nat.lt_of_lt_of_le hs (Nat.pow_le_pow_right (by decide) (by omega)))] at h
  cases h
theorem ld_in_p (σ : aL) (p : Nat) : ld_in σ p < 2 ^ σ.1 := bitsTo_lt _ _
theorem tsm_sum {k : Nat → Nat} {t : Nat} : ∀ n, tsm (fun c => nI (k c)) t n = nI (fb_sm (fun c => if t.testBit c then k c else 0) n)
  | 0 => rfl
  | n + 1 => by
    rw [fb_sm_succ, ← nI_add]
    show (if t.testBit n = true then _ else _) = _
    rw [tsm_sum n]
    by_cases h : t.testBit n = true
    · rw [if_pos h, if_pos h]
    · rw [if_neg h, if_neg h]
      exact (z_add0 _).symm
theorem tsm_ld {σ : aL} {t : Nat} (hn : σ.1 ≤ 10) (ht : t < 2 ^ σ.1) : tsm (fun c => nI (k_now (σ.2.1 c))) t 10 = nI (ld_sum σ t) := by
  have h := tsm_top (e := fun c => nI (k_now (σ.2.1 c))) ht (10 - σ.1)
  rw [show σ.1 + (10 - σ.1) = 10 by omega] at h
  rw [h, tsm_sum]
  rfl
