/-! THE SETS OF SOME COINS: all subsets in the order of numbers, listed (the class) or sieved (the reference) -/
def isSub (s t : Nat) : Bool := decide (t &&& s = t)
theorem isSub_iff {s t : Nat} : isSub s t = true ↔ ∀ i, t.testBit i = true → s.testBit i = true := by
  unfold isSub
  rw [decide_eq_true_iff]
  constructor
  · intro h i hi
    rw [← h, Nat.testBit_and] at hi
    exact (Bool.and_eq_true_iff.mp hi).2
  · intro h
    apply Nat.eq_of_testBit_eq
    intro i
    rw [Nat.testBit_and]
    cases e : t.testBit i
    · rfl
    · rw [h i e]; rfl
theorem isSub_le {s t : Nat} (h : isSub s t = true) : t ≤ s := by
  have h1 : t &&& s = t := of_decide_eq_true h
  rw [← h1]
  exact Nat.and_le_right
def fo {α : Type} (h : α → Nat → α) (a : α) (s : Nat) : Nat → α
  | 0 => a
  | m + 1 => if isSub s m = true then h (fo h a s m) m else fo h a s m
def fc {α : Type} (h : α → Nat → α) (a : α) (f : Nat → Nat) : Nat → α
  | 0 => a
  | m + 1 => h (fc h a f m) (f m)
def slc (s : Nat) : Nat → Nat
  | 0 => 1
  | c + 1 => if s.testBit c = true then slc s c + slc s c else slc s c
def slf (s : Nat) : Nat → Nat → Nat
  | 0, _ => 0
  | c + 1, i => if s.testBit c = true then (if i < slc s c then slf s c i else slf s c (i - slc s c) + 2 ^ c) else slf s c i
theorem slc_le (s : Nat) : ∀ c, slc s c ≤ 2 ^ c
  | 0 => Nat.le_refl _
  | c + 1 => by
    have h := slc_le s c
    have h2 : 2 ^ (c + 1) = 2 ^ c + 2 ^ c := by rw [Nat.pow_succ]; omega
    unfold slc
    split <;> omega
theorem slc_pos (s : Nat) : ∀ c, 0 < slc s c
  | 0 => Nat.one_pos
  | c + 1 => by
    have h := slc_pos s c
    unfold slc
    split <;> omega
theorem slf_lt (s : Nat) : ∀ c i, i < slc s c → slf s c i < 2 ^ c
  | 0, _, _ => Nat.one_pos
  | c + 1, i, hi => by
    have h2 : 2 ^ (c + 1) = 2 ^ c + 2 ^ c := by rw [Nat.pow_succ]; omega
    unfold slc at hi
    unfold slf
    by_cases hb : s.testBit c = true
    · rw [if_pos hb] at hi
      rw [if_pos hb]
      by_cases h1 : i < slc s c
      · rw [if_pos h1]
        have := slf_lt s c i h1
        omega
      · rw [if_neg h1]
        have := slf_lt s c (i - slc s c) (by omega)
        omega
    · rw [if_neg hb] at hi
      rw [if_neg hb]
      have := slf_lt s c i hi
      omega
theorem fc_cong {α : Type} {h : α → Nat → α} {a : α} {f g : Nat → Nat} : ∀ {m : Nat}, (∀ i, i < m → f i = g i) → fc h a f m = fc h a g m
  | 0, _ => rfl
  | m + 1, e => by
    show h (fc h a f m) (f m) = h (fc h a g m) (g m)
    rw [fc_cong (fun i hi => e i (by omega)), e m (by omega)]
theorem fc_split {α : Type} (h : α → Nat → α) (a : α) (f : Nat → Nat) (m : Nat) : ∀ n, fc h a f (m + n) = fc h (fc h a f m) (fun i => f (m + i)) n
  | 0 => rfl
  | n + 1 => by
    show h (fc h a f (m + n)) (f (m + n)) = h (fc h (fc h a f m) (fun i => f (m + i)) n) (f (m + n))
    rw [fc_split h a f m n]
theorem fc_map {α : Type} (h : α → Nat → α) (a : α) (f g : Nat → Nat) : ∀ n, fc h a (fun i => g (f i)) n = fc (fun x t => h x (g t)) a f n
  | 0 => rfl
  | n + 1 => by
    show h (fc h a (fun i => g (f i)) n) (g (f n)) = h (fc (fun x t => h x (g t)) a f n) (g (f n))
    rw [fc_map h a f g n]
theorem isSub_hi {s t c : Nat} (ht : t < 2 ^ c) (hb : s.testBit c = true) : isSub s (2 ^ c + t) = isSub s t := by
  have e : ∀ i, (2 ^ c + t).testBit i = (decide (i = c) || t.testBit i) := by
    intro i
    rcases Nat.lt_trichotomy i c with h | h | h
    · rw [Nat.testBit_two_pow_add_gt h, show decide (i = c) = false from decide_eq_false (by omega), Bool.false_or]
    · subst h
      rw [Nat.testBit_two_pow_add_eq, Nat.testBit_lt_two_pow ht]
      simp
    · have h1 : 2 ^ c + t < 2 ^ (c + 1) := by rw [Nat.pow_succ]; omega
      have h2 := Nat.pow_le_pow_right (n := 2) (by decide) (show c + 1 ≤ i by omega)
      rw [Nat.testBit_lt_two_pow (by omega), Nat.testBit_lt_two_pow (by omega : t < 2 ^ i), show decide (i = c) = false from decide_eq_false (by omega)]
      rfl
  have h : isSub s (2 ^ c + t) = true ↔ isSub s t = true := by
    rw [isSub_iff, isSub_iff]
    constructor
    · intro h i hi
      exact h i (by rw [e, hi, Bool.or_true])
    · intro h i hi
      rw [e] at hi
      by_cases h1 : i = c
      · rw [h1]; exact hb
      · rw [decide_eq_false h1, Bool.false_or] at hi
        exact h i hi
  cases h1 : isSub s t
  · cases h2 : isSub s (2 ^ c + t)
    · rfl
    · rw [h.mp h2] at h1; cases h1
  · exact h.mpr h1
theorem isSub_no {s t c : Nat} (ht : t < 2 ^ c) (hb : ¬ s.testBit c = true) : ¬ isSub s (2 ^ c + t) = true := fun h => by
  refine hb (isSub_iff.mp h c ?_)
  rw [Nat.testBit_two_pow_add_eq, Nat.testBit_lt_two_pow ht]
  rfl
theorem fo_hi {α : Type} (h : α → Nat → α) (a : α) {s c : Nat} (hb : s.testBit c = true) : ∀ n, n ≤ 2 ^ c → fo h a s (2 ^ c + n) = fo (fun x t => h x (2 ^ c + t)) (fo h a s (2 ^ c)) s n
  | 0, _ => rfl
  | n + 1, hn => by
    show (if isSub s (2 ^ c + n) = true then h (fo h a s (2 ^ c + n)) (2 ^ c + n) else fo h a s (2 ^ c + n)) = (if isSub s n = true then h (fo (fun x t => h x (2 ^ c + t)) (fo h a s (2 ^ c)) s n) (2 ^ c + n) else fo (fun x t => h x (2 ^ c + t)) (fo h a s (2 ^ c)) s n)
    rw [isSub_hi (by omega) hb, fo_hi h a hb n (by omega)]
theorem fo_no {α : Type} (h : α → Nat → α) (a : α) {s c : Nat} (hb : ¬ s.testBit c = true) : ∀ n, n ≤ 2 ^ c → fo h a s (2 ^ c + n) = fo h a s (2 ^ c)
  | 0, _ => rfl
  | n + 1, hn => by
    show (if isSub s (2 ^ c + n) = true then _ else _) = _
    rw [if_neg (isSub_no (by omega) hb)]
    exact fo_no h a hb n (by omega)
theorem fc_fo {α : Type} (s : Nat) : ∀ (c : Nat) (h : α → Nat → α) (a : α), fc h a (slf s c) (slc s c) = fo h a s (2 ^ c)
  | 0, h, a => by
    show h a 0 = (if isSub s 0 = true then h a 0 else a)
    rw [if_pos (isSub_iff.mpr (fun i hi => by rw [Nat.zero_testBit] at hi; cases hi))]
  | c + 1, h, a => by
    have h2 : 2 ^ (c + 1) = 2 ^ c + 2 ^ c := by rw [Nat.pow_succ]; omega
    rw [h2]
    by_cases hb : s.testBit c = true
    · rw [show slc s (c + 1) = slc s c + slc s c from if_pos hb, fc_split, fo_hi h a hb _ (Nat.le_refl _), ← fc_fo s c h a, ← fc_fo s c (fun x t => h x (2 ^ c + t)) _, ← fc_map h _ (slf s c) (fun t => 2 ^ c + t)]
      rw [fc_cong (f := slf s (c + 1)) (g := slf s c) (fun i hi => by
        show (if s.testBit c = true then _ else _) = _
        rw [if_pos hb, if_pos hi])]
      exact fc_cong (fun i hi => by
        show (if s.testBit c = true then _ else _) = _
        rw [if_pos hb, if_neg (by omega), Nat.add_sub_cancel_left, Nat.add_comm])
    · rw [show slc s (c + 1) = slc s c from if_neg hb, fo_no h a hb _ (Nat.le_refl _), ← fc_fo s c h a]
      exact fc_cong (fun i hi => by
        show (if s.testBit c = true then _ else _) = _
        rw [if_neg hb])
theorem fo_end {α : Type} (h : α → Nat → α) (a : α) (s : Nat) : ∀ n, fo h a s (s + 1 + n) = fo h a s (s + 1)
  | 0 => rfl
  | n + 1 => by
    show (if isSub s (s + 1 + n) = true then _ else _) = _
    rw [if_neg (fun z => by have := isSub_le z; omega)]
    exact fo_end h a s n
/-- listed or sieved -/
theorem subs_all {α : Type} {s : Nat} (hs : s < 1024) (h : α → Nat → α) (a : α) : fc h a (slf s 10) (slc s 10) = fo h a s (s + 1) := by
  rw [fc_fo s 10 h a, ← fo_end h a s (2 ^ 10 - (s + 1)), show s + 1 + (2 ^ 10 - (s + 1)) = 2 ^ 10 by omega]
theorem z_sub {s t : Nat} (hs : s < 2 ^ 31) (ht : t < 2 ^ 31) : (nI t &&& (nI s ^^^ (-1))) = 0 ↔ isSub s t = true := by
  have bits : ∀ i, i < 32 → (nI t &&& (nI s ^^^ (-1))).toBitVec.getLsbD i = (t.testBit i && !s.testBit i) := by
    intro i hi
    rw [Int32.toBitVec_and, Int32.toBitVec_xor, BitVec.getLsbD_and, BitVec.getLsbD_xor, z_lsb _ _ hi, z_lsb _ _ hi, z_m1 i hi]
    simp
  have hz : ∀ i, (0 : Int32).toBitVec.getLsbD i = false := fun i => by
    show (BitVec.ofNat 32 0).getLsbD i = false
    simp
  rw [isSub_iff]
  constructor
  · intro h i hi
    by_cases h32 : i < 32
    · have hb := bits i h32
      rw [h, hz, hi] at hb
      cases e : s.testBit i
      · rw [e] at hb; cases hb
      · rfl
    · rw [Nat.testBit_lt_two_pow (Nat.lt_of_lt_of_le ht (Nat.pow_le_pow_right (by decide) (by omega)))] at hi
      cases hi
  · intro h
    apply Int32.toBitVec_inj.1
    apply BitVec.eq_of_getLsbD_eq
    intro i hi
    rw [bits i hi, hz]
    cases e : t.testBit i
    · rfl
    · rw [h i e]; rfl
