/-! THE PUBLIC METHODS (3): sides, spots -/
def ld_high (σ : aL) (p : Nat) : Nat := fb_sm (fun c => if σ.2.1 c 1 = p then max (k_now (σ.2.1 c)) (k_oth (σ.2.1 c)) else 0) σ.1
def op_highest (S : aS) (x : Int32) : Int32 × aS := if inR x 3 then (nI (ld_high S.1 (tn x)), S) else fnd S 0
def ld_wrong (σ : aL) : Nat := bitsTo (fun c => decide (k_now (σ.2.1 c) < k_oth (σ.2.1 c))) σ.1
def op_wrong (S : aS) : Int32 × aS := (nI (ld_wrong S.1), S)
def k_best (k : Nat → Nat) : Nat → Nat
  | 0 => 0
  | i + 1 => if k_as k (k_best k i) < k_as k (i + 1) then i + 1 else k_best k i
theorem k_best_le (k : Nat → Nat) : ∀ i, k_best k i ≤ i
  | 0 => Nat.le_refl _
  | i + 1 => by
    have h := k_best_le k i
    rw [k_best]
    split <;> omega
def op_kindFor (S : aS) (x : Int32) : Int32 × aS := if hasC S.1.1 x then (nI (k_best (S.1.2.1 (tn x)) 6), S) else fnd S 0
def ld_spot (σ : aL) (s : Nat) (v : Int32) : aL := (σ.1, σ.2.1, (fun i => if i = s then v else σ.2.2.1 i), σ.2.2.2)
def op_hold (S : aS) (x y : Int32) : Int32 × aS := if inR x 9 then (if y = -1 then (nI 1, st_l S (ld_spot S.1 (tn x) y)) else if hasC S.1.1 y then (nI 1, st_l S (ld_spot S.1 (tn x) y)) else fnd S 0) else fnd S 0
def op_as (S : aS) (x y : Int32) : Int32 × aS := if inR x 9 then (if inR y 6 then (if hasC S.1.1 (S.1.2.2.1 (tn x)) then (if k_isA (S.1.2.1 (tn (S.1.2.2.1 (tn x))) 0) (tn y) = true then (S.1.2.2.1 (tn x), S) else fnd S 2) else fnd S 5) else fnd S 0) else fnd S 0
theorem absL.spot {I : Nat → Nat → Int32} {b s : Nat} {σ : aL} {v : Int32} (h : absL I b σ) : absL (up2 I (b + 2) s v) b (ld_spot σ s v) := by
  refine ⟨by rw [up2_ni (by omega)]; exact h.1, fun c hc f hf => by rw [up2_ni (by omega)]; exact h.2.1 c hc f hf, fun i hi => ?_, by rw [up2_ni (by omega)]; exact h.2.2.2.1, by rw [up2_ni (by omega)]; exact h.2.2.2.2⟩
  show _ = if i = s then v else σ.2.2.1 i
  by_cases e : i = s
  · rw [if_pos e, e, up2_same]
  · rw [if_neg e, up2_nk e]
    exact h.2.2.1 i hi
theorem absR.spot {I : Nat → Nat → Int32} {s : Nat} {σ : aL} {v : Int32} (h : absR I 77 σ) (hs : s < 10) : absR (up2 I 77 (3 + s) v) 77 (ld_spot σ s v) := by
  refine ⟨by rw [up2_nk (by omega)]; exact h.1, by rw [up2_nk (by omega)]; exact h.2.1, by rw [up2_nk (by omega)]; exact h.2.2.1, fun i hi => ?_, fun c hc f hf => by rw [up2_nk (by omega)]; exact h.2.2.2.2 c hc f hf⟩
  show _ = if i = s then v else σ.2.2.1 i
  by_cases e : i = s
  · rw [if_pos e, e, up2_same]
  · rw [if_neg e, up2_nk (by omega)]
    exact h.2.2.2.1 i hi
theorem frL.sp {b k : Nat} {I : Nat → Nat → Int32} {v : Int32} : frL b I (up2 I (b + 2) k v) := fun i hi => by
  funext f
  rw [up2_ni (by omega)]
