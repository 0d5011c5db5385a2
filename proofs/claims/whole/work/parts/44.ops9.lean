/-! THE PUBLIC METHODS (9): the payment that costs least -/
def gv (σ : aL) (p t : Nat) : Nat := t &&& ld_in σ p
def cs (σ : aL) (p q t : Nat) : Int32 := nI (ld_sum σ (gv σ p t)) - nI (ld_sumP σ (gv σ q t) p)
def csN (σ : aL) (p q t : Nat) : Nat := ld_sum σ (gv σ p t) + 1000 - ld_sumP σ (gv σ q t) p
theorem ld_sumP_le {B : Nat} {σ : aL} (h : wfL B σ) (t p : Nat) : ld_sumP σ t p ≤ 1000 := by
  have h1 : ∀ n, n ≤ σ.1 → fb_sm (fun c => if t.testBit c then k_paid (σ.2.1 c) p else 0) n ≤ 100 * n := by
    intro n
    induction n with
    | zero => intro _; exact Nat.le_refl _
    | succ n ih =>
      intro hn
      rw [fb_sm_succ]
      have h2 := ih (by omega)
      have h3 : k_paid (σ.2.1 n) p ≤ 100 := k_wIf_le (h.2.1 n (by omega)) _ _ _ _
      by_cases hb : t.testBit n = true
      · simp only [hb, if_true]; omega
      · simp only [hb, if_false, Bool.false_eq_true]; omega
  have h2 := h1 σ.1 (Nat.le_refl _)
  have h3 := h.1
  unfold ld_sumP
  omega
theorem cs_int {B : Nat} {σ : aL} (h : wfL B σ) (p q t : Nat) : (cs σ p q t).toInt = (ld_sum σ (gv σ p t) : Int) - ld_sumP σ (gv σ q t) p := by
  have h1 := ld_sum_le h (gv σ p t)
  have h2 := ld_sumP_le h (gv σ q t) p
  exact pk_sub_toInt (by omega) (by omega)
theorem cs_lt {B : Nat} {σ : aL} (h : wfL B σ) (p q t b : Nat) : cs σ p q t < cs σ p q b ↔ csN σ p q t < csN σ p q b := by
  have h2 := ld_sumP_le h (gv σ q t) p
  have h4 := ld_sumP_le h (gv σ q b) p
  rw [Int32.lt_iff_toInt_lt, cs_int h, cs_int h]
  unfold csN
  omega
theorem cs_eq {B : Nat} {σ : aL} (h : wfL B σ) (p q t b : Nat) : cs σ p q t = cs σ p q b ↔ csN σ p q t = csN σ p q b := by
  have h2 := ld_sumP_le h (gv σ q t) p
  have h4 := ld_sumP_le h (gv σ q b) p
  rw [← Int32.toInt_inj, cs_int h, cs_int h]
  unfold csN
  omega
theorem csN_le {B : Nat} {σ : aL} (h : wfL B σ) (p q t : Nat) : csN σ p q t ≤ 2000 := by
  have h1 := ld_sum_le h (gv σ p t)
  unfold csN
  omega
theorem cs_N {B : Nat} {σ : aL} (h : wfL B σ) (p q t : Nat) : cs σ p q t + nI 1000 = nI (csN σ p q t) := by
  have h2 := ld_sumP_le h (gv σ q t) p
  unfold cs csN
  rw [← i_sa, nI_add, pk_sub (by omega)]
theorem gv_lt {σ : aL} (h : σ.1 ≤ 10) (p t : Nat) : gv σ p t < 1024 := Nat.lt_of_le_of_lt Nat.and_le_right (ld_in_lt h p)
def rnk (σ : aL) (p q t : Nat) : Nat := ((csN σ p q t * 16 + pcnt t) * 1024 + gv σ p t) * 1024 + gv σ q t
theorem rnk_lt {B : Nat} {σ : aL} (h : wfL B σ) (p q t b : Nat) : rnk σ p q t < rnk σ p q b ↔ (csN σ p q t < csN σ p q b ∨ (csN σ p q t = csN σ p q b ∧ (pcnt t < pcnt b ∨ (pcnt t = pcnt b ∧ (gv σ p t < gv σ p b ∨ (gv σ p t = gv σ p b ∧ gv σ q t < gv σ q b)))))) := by
  have n10 := h.1
  have g1 := gv_lt n10 p t
  have g2 := gv_lt n10 q t
  have g3 := gv_lt n10 p b
  have g4 := gv_lt n10 q b
  have p1 := pcnt_le t
  have p2 := pcnt_le b
  unfold rnk
  omega
theorem rnk_le {B : Nat} {σ : aL} (h : wfL B σ) (p q t : Nat) : rnk σ p q t < 2 ^ 40 := by
  have n10 := h.1
  have g1 := gv_lt n10 p t
  have g2 := gv_lt n10 q t
  have p1 := pcnt_le t
  have c1 := csN_le h p q t
  unfold rnk
  omega
theorem tsm_csn {σ : aL} {p q t : Nat} (hpq : p ≠ q) (ht : isSub (ld_u σ p q) t = true) : ∀ n, n ≤ σ.1 → tsm (wL σ p) t n = nI (fb_sm (fun c => if (t &&& ld_in σ p).testBit c then k_now (σ.2.1 c) else 0) n) - nI (fb_sm (fun c => if (t &&& ld_in σ q).testBit c then k_paid (σ.2.1 c) p else 0) n)
  | 0, _ => by show nI 0 = nI 0 - nI 0; decide
  | n + 1, hn => by
    rw [fb_sm_succ, fb_sm_succ, ← nI_add, ← nI_add]
    show (if t.testBit n = true then tsm (wL σ p) t n + wL σ p n else tsm (wL σ p) t n) = _
    rw [tsm_csn hpq ht n (by omega), Nat.testBit_and, Nat.testBit_and, ld_in_test (by omega), ld_in_test (by omega)]
    by_cases hb : t.testBit n = true
    · have hu := ld_u_test (isSub_iff.mp ht n hb)
      unfold wL
      by_cases e : σ.2.1 n 1 = p
      · have e2 : ¬ σ.2.1 n 1 = q := fun z => hpq (e.symm.trans z)
        simp only [hb, e, e2, hpq, if_true, decide_true, decide_false, Bool.and_true, Bool.and_false, Bool.false_eq_true, if_false]
        rw [z_add0, i_sa]
      · have e2 : σ.2.1 n 1 = q := by rcases hu.2 with h | h; (· exact absurd h e); (· exact h)
        simp only [hb, e, e2, if_true, decide_true, decide_false, Bool.and_true, Bool.and_false, Bool.false_eq_true, if_false]
        rw [if_neg (fun z => hpq z.symm), if_neg (by simp; exact fun z => hpq z.symm), z_add0, i_sb]
    · simp only [hb, Bool.false_eq_true, if_false, Bool.false_and]
      rw [z_add0, z_add0]
theorem tsm_cs {B : Nat} {σ : aL} (hW : wfL B σ) {p q t : Nat} (hpq : p ≠ q) (ht : isSub (ld_u σ p q) t = true) : tsm (wL σ p) t 10 = cs σ p q t := by
  have n10 := hW.1
  have h2 := tsm_top (e := wL σ p) (Nat.lt_of_le_of_lt (isSub_le ht) (ld_u_p σ p q)) (10 - σ.1)
  rw [show σ.1 + (10 - σ.1) = 10 by omega] at h2
  rw [h2, tsm_csn hpq ht σ.1 (Nat.le_refl _)]
  rfl
/-- both halves of a set -/
theorem gv_or {σ : aL} {p q t : Nat} (ht : isSub (ld_u σ p q) t = true) : gv σ p t ||| gv σ q t = t := by
  have h : t &&& ld_u σ p q = t := of_decide_eq_true ht
  unfold gv
  rw [← Nat.and_or_distrib_left]
  exact h
theorem gv_dis {σ : aL} {p q t : Nat} (hpq : p ≠ q) (c : Nat) : ¬ ((gv σ p t).testBit c = true ∧ (gv σ q t).testBit c = true) := fun ⟨h1, h2⟩ => by
  unfold gv at h1 h2
  rw [Nat.testBit_and, Bool.and_eq_true] at h1 h2
  have hc : c < σ.1 := set_bit (ld_in_p σ p) h1.2
  have a1 := h1.2
  have a2 := h2.2
  rw [ld_in_test hc] at a1 a2
  exact hpq ((of_decide_eq_true a1).symm.trans (of_decide_eq_true a2))
theorem pcnt_gv {σ : aL} {p q t : Nat} (hpq : p ≠ q) (ht : isSub (ld_u σ p q) t = true) : pcnt t = pcnt (gv σ p t) + pcnt (gv σ q t) := by
  have h := fb_ct_or (p := fun c => (gv σ p t).testBit c) (q := fun c => (gv σ q t).testBit c) (n := 10) (fun k _ => gv_dis hpq k)
  unfold pcnt
  rw [← h]
  refine fb_ct_cong (fun k _ => ?_)
  rw [← Nat.testBit_or, gv_or ht]
def bst (r : Nat → Nat) (P : Nat → Prop) [DecidablePred P] (a : Option Nat) (t : Nat) : Option Nat := if P t then (match a with
  | none => some t
  | some b => if r t < r b then some t else some b) else a
theorem fo_bst {r : Nat → Nat} {P : Nat → Prop} [DecidablePred P] {s : Nat} : ∀ m b, fo (bst r P) none s m = some b → isSub s b = true ∧ P b := by
  intro m
  induction m with
  | zero => intro b h; cases h
  | succ m ih =>
    intro b h
    change (if isSub s m = true then bst r P (fo (bst r P) none s m) m else fo (bst r P) none s m) = some b at h
    by_cases hb : isSub s m = true
    · rw [if_pos hb] at h
      unfold bst at h
      by_cases hp : P m
      · rw [if_pos hp] at h
        cases eo : fo (bst r P) none s m with
        | none =>
          change (match fo (bst r P) none s m with | none => some m | some b => if r m < r b then some m else some b) = some b at h
          rw [eo] at h
          cases h
          exact ⟨hb, hp⟩
        | some y =>
          change (match fo (bst r P) none s m with | none => some m | some b => if r m < r b then some m else some b) = some b at h
          rw [eo] at h
          change (if r m < r y then some m else some y) = some b at h
          by_cases hr : r m < r y
          · rw [if_pos hr] at h; cases h; exact ⟨hb, hp⟩
          · rw [if_neg hr] at h; cases h; exact ih _ eo
      · rw [if_neg hp] at h
        exact ih b h
    · rw [if_neg hb] at h
      exact ih b h
def ld_best (σ : aL) (p q v : Nat) : Option Nat := fo (bst (rnk σ p q) (fun t => tot σ p q t = nI v)) none (ld_u σ p q) (ld_u σ p q + 1)
theorem ld_best_c {σ : aL} {p q v : Nat} (h : σ.1 ≤ 10) : ld_best σ p q v = fc (bst (rnk σ p q) (fun t => tot σ p q t = nI v)) none (slf (ld_u σ p q) 10) (slc (ld_u σ p q) 10) := (subs_all (ld_u_lt h p q) _ _).symm
def op_cost (S : aS) (x y z : Int32) : Int32 × aS := if twoP x y then (if inR z 999 then (match ld_best S.1 (tn x) (tn y) (tn z) with
  | none => fnd S 3
  | some b => (cs S.1 (tn x) (tn y) b, S)) else fnd S 0) else fnd S 0
def op_given (S : aS) (x y z : Int32) : Int32 × aS := if twoP x y then (if inR z 999 then (match ld_best S.1 (tn x) (tn y) (tn z) with
  | none => fnd S 3
  | some b => (nI (gv S.1 (tn x) b), S)) else fnd S 0) else fnd S 0
def op_back (S : aS) (x y z : Int32) : Int32 × aS := if twoP x y then (if inR z 999 then (match ld_best S.1 (tn x) (tn y) (tn z) with
  | none => fnd S 3
  | some b => (nI (gv S.1 (tn y) b), S)) else fnd S 0) else fnd S 0
def ld_swap (σ : aL) (p q b : Nat) : aL := ld_payA (ld_payA σ (gv σ p b) q) (gv σ q b) p
def op_buy (S : aS) (x y z : Int32) : Int32 × aS := if twoP x y then (if inR z 999 then (match ld_best S.1 (tn x) (tn y) (tn z) with
  | none => fnd S 3
  | some b => (cs S.1 (tn x) (tn y) b, st_l S (ld_swap S.1 (tn x) (tn y) b))) else fnd S 0) else fnd S 0
theorem z_nand {σ : aL} {p q t : Nat} (hn : σ.1 ≤ 10) (hpq : p ≠ q) (ht : isSub (ld_u σ p q) t = true) : nI t &&& (nI (ld_in σ p) ^^^ (-1)) = nI (gv σ q t) := by
  have hu := ld_u_lt hn p q
  have hle := isSub_le ht
  apply Int32.toBitVec_inj.1
  apply BitVec.eq_of_getLsbD_eq
  intro i hi
  rw [Int32.toBitVec_and, Int32.toBitVec_xor, BitVec.getLsbD_and, BitVec.getLsbD_xor, z_lsb _ _ hi, z_lsb _ _ hi, z_m1 i hi, z_lsb _ _ hi, gv, Nat.testBit_and]
  cases e : t.testBit i
  · simp
  · have h1 := ld_u_test (isSub_iff.mp ht i e)
    rw [ld_in_test h1.1, ld_in_test h1.1]
    by_cases ep : σ.2.1 i 1 = p
    · have eq : ¬ σ.2.1 i 1 = q := fun z => hpq (ep.symm.trans z)
      simp [ep, hpq]
    · have eq : σ.2.1 i 1 = q := by rcases h1.2 with h | h; (· exact absurd h ep); (· exact h)
      simp [eq]
      exact fun z => hpq z.symm
def encb (r : Nat → Nat) (a : Option Nat) : Nat := match a with
  | none => 1152921504606846976
  | some b => r b
theorem encb_y {r : Nat → Nat} {P : Nat → Prop} [DecidablePred P] {a : Option Nat} {t : Nat} (h : P t) (ht : r t < 1152921504606846976) : encb r (bst r P a t) = min (encb r a) (r t) := by
  unfold bst
  rw [if_pos h]
  cases a with
  | none => exact (Nat.min_eq_right (Nat.le_of_lt ht)).symm
  | some b =>
    show encb r (if r t < r b then some t else some b) = min (r b) (r t)
    by_cases hr : r t < r b
    · rw [if_pos hr, Nat.min_eq_right (Nat.le_of_lt hr)]; rfl
    · rw [if_neg hr, Nat.min_eq_left (Nat.not_lt.mp hr)]; rfl
theorem encb_n {r : Nat → Nat} {P : Nat → Prop} [DecidablePred P] {a : Option Nat} {t : Nat} (h : ¬ P t) : encb r (bst r P a t) = encb r a := by
  unfold bst
  rw [if_neg h]
theorem lgc_eq (x : Int64) : lg_cmp x x = 0 := by
  unfold lg_cmp
  simp
theorem lgc_lt {x y : Int64} (h : x < y) : lg_cmp x y = -1 := by
  have hne : ¬ x = y := fun e => by subst e; exact absurd h Int64.lt_irrefl
  unfold lg_cmp
  simp [h, hne, Int64.le_of_lt h]
theorem rnk_g {B : Nat} {σ : aL} (h : wfL B σ) (p q t : Nat) : rnk σ p q t / 1024 % 1024 = gv σ p t := by
  have g1 := gv_lt h.1 p t
  have g2 := gv_lt h.1 q t
  unfold rnk
  omega
theorem rnk_b {B : Nat} {σ : aL} (h : wfL B σ) (p q t : Nat) : rnk σ p q t % 1024 = gv σ q t := by
  have g2 := gv_lt h.1 q t
  unfold rnk
  omega
