/-! THE PUBLIC METHODS (8): payments: weights -/
def wE (σ : aL) (p : Nat) (c : Nat) : Int32 := if σ.2.1 c 1 = p then nI (k_now (σ.2.1 c)) else -(nI (k_now (σ.2.1 c)))
def wL (σ : aL) (p : Nat) (c : Nat) : Int32 := if σ.2.1 c 1 = p then nI (k_now (σ.2.1 c)) else -(nI (k_paid (σ.2.1 c) p))
def wO (σ : aL) (p q : Nat) (c : Nat) : Int32 := if σ.2.1 c 1 = p then -(nI (k_paid (σ.2.1 c) q)) else nI (k_now (σ.2.1 c))
def ld_u (σ : aL) (p q : Nat) : Nat := ld_in σ p ||| ld_in σ q
def uP (σ : aL) (p q : Nat) : Nat → Bool := fun c => decide (σ.2.1 c 1 = p ∨ σ.2.1 c 1 = q)
theorem bitsTo_hi (P : Nat → Bool) {n j : Nat} (h : n ≤ j) : (bitsTo P n).testBit j = false := Nat.testBit_lt_two_pow (Nat.lt_of_lt_of_le (bitsTo_lt P n) (Nat.pow_le_pow_right (by decide) h))
theorem ld_u_is (σ : aL) (p q : Nat) : bitsTo (uP σ p q) σ.1 = ld_u σ p q := by
  apply Nat.eq_of_testBit_eq
  intro i
  unfold ld_u ld_in
  rw [Nat.testBit_or]
  by_cases h : i < σ.1
  · rw [bitsTo_test _ _ _ h, bitsTo_test _ _ _ h, bitsTo_test _ _ _ h]
    unfold uP
    by_cases e1 : σ.2.1 i 1 = p <;> by_cases e2 : σ.2.1 i 1 = q <;> simp [e1, e2]
  · rw [bitsTo_hi _ (by omega), bitsTo_hi _ (by omega), bitsTo_hi _ (by omega)]
    rfl
theorem ld_u_p (σ : aL) (p q : Nat) : ld_u σ p q < 2 ^ σ.1 := by rw [← ld_u_is]; exact bitsTo_lt _ _
theorem ld_u_test {σ : aL} {p q c : Nat} (h : (ld_u σ p q).testBit c = true) : c < σ.1 ∧ (σ.2.1 c 1 = p ∨ σ.2.1 c 1 = q) := by
  have hc := set_bit (ld_u_p σ p q) h
  rw [← ld_u_is, bitsTo_test _ _ _ hc] at h
  exact ⟨hc, of_decide_eq_true h⟩
def tot (σ : aL) (p q t : Nat) : Int32 := nI (ld_sum σ (t &&& ld_in σ p)) - nI (ld_sum σ (t &&& ld_in σ q))
theorem i_sa (a b x : Int32) : (a + x) - b = (a - b) + x := by rw [Int32.sub_eq_add_neg, Int32.sub_eq_add_neg]; ac_rfl
theorem i_sb (a b x : Int32) : a - (b + x) = (a - b) + -x := by rw [Int32.sub_eq_add_neg a (b + x), Int32.sub_eq_add_neg a b, Int32.neg_add, Int32.sub_eq_add_neg]; ac_rfl
theorem tsm_tot {σ : aL} {p q t : Nat} (hpq : p ≠ q) (ht : isSub (ld_u σ p q) t = true) : ∀ n, n ≤ σ.1 → tsm (wE σ p) t n = nI (fb_sm (fun c => if (t &&& ld_in σ p).testBit c then k_now (σ.2.1 c) else 0) n) - nI (fb_sm (fun c => if (t &&& ld_in σ q).testBit c then k_now (σ.2.1 c) else 0) n)
  | 0, _ => by show nI 0 = nI 0 - nI 0; decide
  | n + 1, hn => by
    rw [fb_sm_succ, fb_sm_succ, ← nI_add, ← nI_add]
    show (if t.testBit n = true then tsm (wE σ p) t n + wE σ p n else tsm (wE σ p) t n) = _
    rw [tsm_tot hpq ht n (by omega), Nat.testBit_and, Nat.testBit_and, ld_in_test (by omega), ld_in_test (by omega)]
    by_cases hb : t.testBit n = true
    · have hu := ld_u_test (isSub_iff.mp ht n hb)
      unfold wE
      by_cases e : σ.2.1 n 1 = p
      · have e2 : ¬ σ.2.1 n 1 = q := fun z => hpq (e.symm.trans z)
        simp only [hb, e, e2, hpq, if_true, decide_true, decide_false, Bool.and_true, Bool.and_false, Bool.false_eq_true, if_false]
        rw [z_add0, i_sa]
      · have e2 : σ.2.1 n 1 = q := by rcases hu.2 with h | h; (· exact absurd h e); (· exact h)
        simp only [hb, e, e2, if_true, decide_true, decide_false, Bool.and_true, Bool.and_false, Bool.false_eq_true, if_false]
        rw [if_neg (fun z => hpq z.symm), if_neg (by simp; exact fun z => hpq z.symm), z_add0, i_sb]
    · simp only [hb, Bool.false_eq_true, if_false, Bool.false_and]
      rw [z_add0, z_add0]
theorem tsm_totA {B : Nat} {σ : aL} (hW : wfL B σ) {p q t : Nat} (hpq : p ≠ q) (ht : isSub (ld_u σ p q) t = true) : tsm (wE σ p) t 10 = tot σ p q t := by
  have n10 := hW.1
  have h2 := tsm_top (e := wE σ p) (Nat.lt_of_le_of_lt (isSub_le ht) (ld_u_p σ p q)) (10 - σ.1)
  rw [show σ.1 + (10 - σ.1) = 10 by omega] at h2
  rw [h2, tsm_tot hpq ht σ.1 (Nat.le_refl _)]
  rfl
def ld_few (σ : aL) (p q v : Nat) : Nat := fo (fun n t => if tot σ p q t = nI v then min n (pcnt t) else n) 11 (ld_u σ p q) (ld_u σ p q + 1)
def op_fewest (S : aS) (x y z : Int32) : Int32 × aS := if twoP x y then (if inR z 999 then (if ld_few S.1 (tn x) (tn y) (tn z) ≤ 10 then (nI (ld_few S.1 (tn x) (tn y) (tn z)), S) else fnd S 3) else fnd S 0) else fnd S 0
theorem ld_u_lt {σ : aL} (h : σ.1 ≤ 10) (p q : Nat) : ld_u σ p q < 1024 := Nat.lt_of_lt_of_le (ld_u_p σ p q) (z_p10 h)
theorem ld_few_c {σ : aL} {p q v : Nat} (h : σ.1 ≤ 10) : ld_few σ p q v = fc (fun n t => if tot σ p q t = nI v then min n (pcnt t) else n) 11 (slf (ld_u σ p q) 10) (slc (ld_u σ p q) 10) := (subs_all (ld_u_lt h p q) _ _).symm
theorem fc_min_le {P : Nat → Prop} [DecidablePred P] {f : Nat → Nat} {a : Nat} : ∀ m, fc (fun n t => if P t then min n (pcnt t) else n) a f m ≤ a
  | 0 => Nat.le_refl _
  | m + 1 => by
    have h := fc_min_le (P := P) (f := f) (a := a) m
    show (if P (f m) then _ else _) ≤ _
    split
    · exact Nat.le_trans (Nat.min_le_left _ _) h
    · exact h
theorem fo_min_le {P : Nat → Prop} [DecidablePred P] {s a : Nat} : ∀ m, fo (fun n t => if P t then min n (pcnt t) else n) a s m ≤ a
  | 0 => Nat.le_refl _
  | m + 1 => by
    have h := fo_min_le (P := P) (s := s) (a := a) m
    show (if isSub s m = true then (if P m then _ else _) else _) ≤ _
    split
    · split
      · exact Nat.le_trans (Nat.min_le_left _ _) h
      · exact h
    · exact h
