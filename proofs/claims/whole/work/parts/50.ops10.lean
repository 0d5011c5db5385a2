/-! THE PUBLIC METHODS (10): judge -/
def jd (p q : Nat) (ns : Nat → Int32) (σ : aL) : Nat → Option aL
  | 0 => some σ
  | i + 1 => match jd p q ns σ i with
    | none => none
    | some τ => if inR (ns i) 999 then (match ld_best τ p q (tn (ns i)) with
      | none => none
      | some b => some (ld_swap τ p q b)) else none
theorem wf_swap {B p q b : Nat} {σ : aL} (h : wfL B σ) (hp : p < 4) (hq : q < 4) (hB : B + 4 < 1000000) : wfL (B + 4) (ld_swap σ p q b) := wf_payA (wf_payA h hq (by omega)) hp (by omega)
theorem jd_bad {p q i : Nat} {ns : Nat → Int32} {σ τ : aL} (h : jd p q ns σ i = some τ) (hn : ¬ inR (ns i) 999) : jd p q ns σ (i + 1) = none := by
  show (match jd p q ns σ i with | none => none | some τ => if inR (ns i) 999 then _ else none) = none
  rw [h]
  exact if_neg hn
theorem jd_none {p q i v : Nat} {ns : Nat → Int32} {σ τ : aL} (h : jd p q ns σ i = some τ) (hn : inR (ns i) 999) (hv : tn (ns i) = v) (e : ld_best τ p q v = none) : jd p q ns σ (i + 1) = none := by
  show (match jd p q ns σ i with | none => none | some τ => if inR (ns i) 999 then (match ld_best τ p q (tn (ns i)) with | none => none | some b => some (ld_swap τ p q b)) else none) = none
  rw [h]
  show (if inR (ns i) 999 then (match ld_best τ p q (tn (ns i)) with | none => none | some b => some (ld_swap τ p q b)) else none) = none
  rw [if_pos hn, hv, e]
theorem jd_some {p q i v b : Nat} {ns : Nat → Int32} {σ τ : aL} (h : jd p q ns σ i = some τ) (hn : inR (ns i) 999) (hv : tn (ns i) = v) (e : ld_best τ p q v = some b) : jd p q ns σ (i + 1) = some (ld_swap τ p q b) := by
  show (match jd p q ns σ i with | none => none | some τ => if inR (ns i) 999 then (match ld_best τ p q (tn (ns i)) with | none => none | some b => some (ld_swap τ p q b)) else none) = _
  rw [h]
  show (if inR (ns i) 999 then (match ld_best τ p q (tn (ns i)) with | none => none | some b => some (ld_swap τ p q b)) else none) = _
  rw [if_pos hn, hv, e]
theorem ld_payA_n (σ : aL) (s to : Nat) : (ld_payA σ s to).1 = σ.1 := rfl
def jans (p q : Nat) (ns : Nat → Int32) (σ : aL) (z : Nat) : Nat := if fa_first (fun i => (jd p q ns σ (i + 1)).isNone) z < z then fa_first (fun i => (jd p q ns σ (i + 1)).isNone) z + 1 else 0
theorem jans_at {p q z c : Nat} {ns : Nat → Int32} {σ : aL} (hc : c < z) (h : ∀ i, i < c → (jd p q ns σ (i + 1)).isNone = false) (hy : jd p q ns σ (c + 1) = none) : jans p q ns σ z = c + 1 := by
  unfold jans
  rw [fst_is hc h (by rw [hy]; rfl), if_pos hc]
theorem jans_end {p q z : Nat} {ns : Nat → Int32} {σ : aL} (h : ∀ i, i < z → (jd p q ns σ (i + 1)).isNone = false) : jans p q ns σ z = 0 := if_neg (fst_no h)
def op_judge (S : aS) (x y z : Int32) : Int32 × aS := if inR x 3 then (if S.2.2.2.2.2.1 (tn x) = 0 then fnd S 5 else if twoP y z then (nI (jans (tn y) (tn z) (S.2.2.2.2.2.2.2 (tn x)) S.1 (S.2.2.2.2.2.2.1 (tn x))), S) else fnd S 0) else fnd S 0
