/-! THE PUBLIC METHODS (11): the change that gains most -/
def os (σ : aL) (p q t : Nat) : Int32 := nI (ld_sum σ (gv σ q t)) - nI (ld_sumP σ (gv σ p t) q)
theorem os_int {B : Nat} {σ : aL} (h : wfL B σ) (p q t : Nat) : (os σ p q t).toInt = (ld_sum σ (gv σ q t) : Int) - ld_sumP σ (gv σ p t) q := by
  have h1 := ld_sum_le h (gv σ q t)
  have h2 := ld_sumP_le h (gv σ p t) q
  exact pk_sub_toInt (by omega) (by omega)
theorem tsm_osn {σ : aL} {p q t : Nat} (hpq : p ≠ q) (ht : isSub (ld_u σ p q) t = true) : ∀ n, n ≤ σ.1 → tsm (wO σ p q) t n = nI (fb_sm (fun c => if (t &&& ld_in σ q).testBit c then k_now (σ.2.1 c) else 0) n) - nI (fb_sm (fun c => if (t &&& ld_in σ p).testBit c then k_paid (σ.2.1 c) q else 0) n)
  | 0, _ => by show nI 0 = nI 0 - nI 0; decide
  | n + 1, hn => by
    rw [fb_sm_succ, fb_sm_succ, ← nI_add, ← nI_add]
    show (if t.testBit n = true then tsm (wO σ p q) t n + wO σ p q n else tsm (wO σ p q) t n) = _
    rw [tsm_osn hpq ht n (by omega), Nat.testBit_and, Nat.testBit_and, ld_in_test (by omega), ld_in_test (by omega)]
    by_cases hb : t.testBit n = true
    · have hu := ld_u_test (isSub_iff.mp ht n hb)
      unfold wO
      by_cases e : σ.2.1 n 1 = p
      · have e2 : ¬ σ.2.1 n 1 = q := fun z => hpq (e.symm.trans z)
        simp only [hb, e, e2, hpq, if_true, decide_true, decide_false, Bool.and_true, Bool.and_false, Bool.false_eq_true, if_false]
        rw [z_add0, i_sb]
      · have e2 : σ.2.1 n 1 = q := by rcases hu.2 with h | h; (· exact absurd h e); (· exact h)
        simp only [hb, e, e2, if_true, decide_true, decide_false, Bool.and_true, Bool.and_false, Bool.false_eq_true, if_false]
        rw [if_neg (fun z => hpq z.symm), if_neg (by simp; exact fun z => hpq z.symm), z_add0, i_sa]
    · simp only [hb, Bool.false_eq_true, if_false, Bool.false_and]
      rw [z_add0, z_add0]
theorem tsm_os {B : Nat} {σ : aL} (hW : wfL B σ) {p q t : Nat} (hpq : p ≠ q) (ht : isSub (ld_u σ p q) t = true) : tsm (wO σ p q) t 10 = os σ p q t := by
  have n10 := hW.1
  have h2 := tsm_top (e := wO σ p q) (Nat.lt_of_le_of_lt (isSub_le ht) (ld_u_p σ p q)) (10 - σ.1)
  rw [show σ.1 + (10 - σ.1) = 10 by omega] at h2
  rw [h2, tsm_osn hpq ht σ.1 (Nat.le_refl _)]
  rfl
/-- what both gain if a set changes purses: 0 if it leaves one less -/
def gnN (σ : aL) (p q t : Nat) : Nat := if ld_sumP σ (gv σ q t) p < ld_sum σ (gv σ p t) ∨ ld_sumP σ (gv σ p t) q < ld_sum σ (gv σ q t) then 0 else (ld_sumP σ (gv σ q t) p - ld_sum σ (gv σ p t)) + (ld_sumP σ (gv σ p t) q - ld_sum σ (gv σ q t))
theorem gnN_le {B : Nat} {σ : aL} (h : wfL B σ) (p q t : Nat) : gnN σ p q t ≤ 2000 := by
  have h1 := ld_sumP_le h (gv σ q t) p
  have h2 := ld_sumP_le h (gv σ p t) q
  unfold gnN
  split <;> omega
abbrev chP (σ : aL) (p q t : Nat) : Prop := tot σ p q t = nI 0 ∧ 0 < gnN σ p q t
def rnc (σ : aL) (p q t : Nat) : Nat := ((2000 - gnN σ p q t) * 1024 + gv σ p t) * 1024 + gv σ q t
theorem rnc_lt {B : Nat} {σ : aL} (h : wfL B σ) (p q t b : Nat) : rnc σ p q t < rnc σ p q b ↔ (gnN σ p q b < gnN σ p q t ∨ (gnN σ p q t = gnN σ p q b ∧ (gv σ p t < gv σ p b ∨ (gv σ p t = gv σ p b ∧ gv σ q t < gv σ q b)))) := by
  have n10 := h.1
  have g1 := gv_lt n10 p t
  have g2 := gv_lt n10 q t
  have g3 := gv_lt n10 p b
  have g4 := gv_lt n10 q b
  have p1 := gnN_le h p q t
  have p2 := gnN_le h p q b
  unfold rnc
  omega
theorem rnc_le {B : Nat} {σ : aL} (h : wfL B σ) (p q t : Nat) : rnc σ p q t < 2 ^ 40 := by
  have n10 := h.1
  have g1 := gv_lt n10 p t
  have g2 := gv_lt n10 q t
  have c1 := gnN_le h p q t
  unfold rnc
  omega
theorem rnc_g {B : Nat} {σ : aL} (h : wfL B σ) (p q t : Nat) : rnc σ p q t / 1024 % 1024 = gv σ p t := by
  have g1 := gv_lt h.1 p t
  have g2 := gv_lt h.1 q t
  unfold rnc
  omega
theorem rnc_b {B : Nat} {σ : aL} (h : wfL B σ) (p q t : Nat) : rnc σ p q t % 1024 = gv σ q t := by
  have g2 := gv_lt h.1 q t
  unfold rnc
  omega
def ld_chg (σ : aL) (p q : Nat) : Option Nat := fo (bst (rnc σ p q) (fun t => chP σ p q t)) none (ld_u σ p q) (ld_u σ p q + 1)
theorem ld_chg_c {σ : aL} {p q : Nat} (h : σ.1 ≤ 10) : ld_chg σ p q = fc (bst (rnc σ p q) (fun t => chP σ p q t)) none (slf (ld_u σ p q) 10) (slc (ld_u σ p q) 10) := (subs_all (ld_u_lt h p q) _ _).symm
