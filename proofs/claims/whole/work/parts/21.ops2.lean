/-! THE PUBLIC METHODS (2): days, draws, tape, images, counts -/
def st_t (S : aS) (tp : Nat × (Nat → Nat)) : aS := (S.1, S.2.1, S.2.2.1, tp, S.2.2.2.2)
def st_k (S : aS) (kf : Nat) (κ : aL) : aS := (S.1, kf, κ, S.2.2.2)
def op_seed (S : aS) (v : Int32) : Int32 × aS := (S.1.2.2.2.2, st_l S (ld_z S.1 v))
def op_wipe (S : aS) : Int32 × aS := (nI S.2.2.2.1.1, st_t S (0, S.2.2.2.1.2))
def op_tear (S : aS) : Int32 × aS := (nI S.2.1, st_k S 0 S.2.2.1)
def op_image (S : aS) : Int32 × aS := (nI 1, st_k S 1 S.1)
def op_undo (S : aS) : Int32 × aS := if S.2.1 = 0 then fnd S 3 else (nI S.2.2.1.2.2.2.1, st_l S S.2.2.1)
def op_count (S : aS) (x : Int32) : Int32 × aS := if x = nI 0 then (nI S.1.2.2.2.1, S) else if x = nI 1 then (nI S.1.1, S) else if x = nI 2 then (nI (ld_sum S.1 (2 ^ S.1.1 - 1)), S) else if x = nI 3 then (nI (ld_turns S.1), S) else if x = nI 4 then (nI (ld_ly S.1 0), S) else if x = nI 5 then (nI S.2.2.2.1.1, S) else if x = nI 6 then (S.1.2.2.2.2, S) else if x = nI 7 then (nI (ld_held S.1), S) else fnd S 0
def op_days (S : aS) (x : Int32) : Int32 × aS := if (nI 1 ≤ x ∧ x ≤ nI 60) then (if S.1.2.2.2.1 + tn x ≤ 999 then (nI (ld_daysN S.1 (tn x)), st_l S (ld_days S.1 (tn x))) else fnd S 4) else fnd S 0
def op_ahead (S : aS) (x y : Int32) : Int32 × aS := if inR x 3 then (if inR y 60 then (if S.1.2.2.2.1 + tn y ≤ 999 then (nI (ld_sum (ld_days S.1 (tn y)) (ld_in (ld_days S.1 (tn y)) (tn x))), S) else fnd S 4) else fnd S 0) else fnd S 0
theorem z_rng {x : Int32} {lo hi : Nat} (hh : hi < 2 ^ 31) (hl : lo ≤ hi) (h : nI lo ≤ x ∧ x ≤ nI hi) : ∃ a, lo ≤ a ∧ a ≤ hi ∧ x = nI a := by
  have e1 := Int32.le_iff_toInt_le.mp h.1
  rw [nI_toInt (by omega)] at e1
  have hx : ¬ x < 0 := fun z => by
    have := Int32.lt_iff_toInt_lt.mp z
    rw [show (0 : Int32).toInt = 0 from rfl] at this
    omega
  obtain ⟨a, ha, rfl⟩ := nI_of hx
  exact ⟨a, (nI_leI (by omega) ha).mp h.1, (nI_leI ha hh).mp h.2, rfl⟩
theorem InvC.tape0 {I : Nat → Nat → Int32} {B : Nat} {S : aS} (h : InvC I S) (hw : wfS B S) : InvC (up2 I 0 5 (nI 0)) (st_t S (0, S.2.2.2.1.2)) := by
  obtain ⟨h1, h2, h3, h4, h5, h6, h7⟩ := h
  have ne : ∀ i, i ≠ 0 → up2 I 0 5 (nI 0) i = I i := fun i hi => by funext k; exact up2_ni hi
  refine ⟨h1.mv hw.1.1 (fun i a b => ne i (by omega)), by rw [up2_nk (by decide)]; exact h2, fun k => (h3 k).mv (hw.2.2.1 k).1 (fun i a b => ne i (by omega)), up2_same _ _ _ _, fun j hj => absurd hj (Nat.not_lt_zero _), fun i hi => by rw [ne 67 (by decide)]; exact h6 i hi, fun s hs => ?_⟩
  rw [ne (68 + 2 * s) (by omega), ne (69 + 2 * s) (by omega)]
  exact h7 s hs
theorem InvC.tear {I : Nat → Nat → Int32} {B : Nat} {S : aS} (h : InvC I S) (hw : wfS B S) : InvC (up2 I 0 3 (nI 0)) (st_k S 0 S.2.2.1) := by
  obtain ⟨h1, h2, h3, h4, h5, h6, h7⟩ := h
  have ne : ∀ i, i ≠ 0 → up2 I 0 3 (nI 0) i = I i := fun i hi => by funext k; exact up2_ni hi
  refine ⟨h1.mv hw.1.1 (fun i a b => ne i (by omega)), up2_same _ _ _ _, fun k => absurd k (show ¬ (0 : Nat) = 1 by decide), by rw [up2_nk (by decide)]; exact h4, fun j hj => by rw [ne 40 (by decide)]; exact h5 j hj, fun i hi => by rw [ne 67 (by decide)]; exact h6 i hi, fun s hs => ?_⟩
  rw [ne (68 + 2 * s) (by omega), ne (69 + 2 * s) (by omega)]
  exact h7 s hs
theorem InvC.image {I I1 : Nat → Nat → Int32} {B : Nat} {S : aS} (h : InvC I S) (hw : wfS B S) (hA : absL I1 27 S.1) (hF : frL 27 I I1) : InvC (up2 I1 0 3 (nI 1)) (st_k S 1 S.1) := by
  obtain ⟨h1, h2, h3, h4, h5, h6, h7⟩ := h
  have ne : ∀ i, i ≠ 0 → up2 I1 0 3 (nI 1) i = I1 i := fun i hi => by funext k; exact up2_ni hi
  have nf : ∀ i, i ≠ 0 → (i < 27 ∨ 40 ≤ i) → up2 I1 0 3 (nI 1) i = I i := fun i hi h => (ne i hi).trans (hF i (by omega))
  refine ⟨h1.mv hw.1.1 (fun i a b => nf i (by omega) (by omega)), up2_same _ _ _ _, fun _ => hA.mv hw.1.1 (fun i a b => ne i (by omega)), by rw [up2_nk (by decide), hF 0 (by decide)]; exact h4, fun j hj => by rw [nf 40 (by decide) (by decide)]; exact h5 j hj, fun i hi => by rw [nf 67 (by decide) (by decide)]; exact h6 i hi, fun s hs => ?_⟩
  rw [nf (68 + 2 * s) (by omega) (by omega), nf (69 + 2 * s) (by omega) (by omega)]
  exact h7 s hs
theorem InvM.tape0 {I : Nat → Nat → Int32} {S : aS} (h : InvM I S) : InvM (up2 I 76 10 (nI 0)) (st_t S (0, S.2.2.2.1.2)) := by
  obtain ⟨h1, h2, h3, h4, h5, h6, h7⟩ := h
  have ne : ∀ i, i ≠ 76 → up2 I 76 10 (nI 0) i = I i := fun i hi => by funext k; exact up2_ni hi
  exact ⟨h1.mv (ne _ (by decide)), by rw [up2_nk (by decide)]; exact h2, fun k => (h3 k).mv (ne _ (by decide)), up2_same _ _ _ _, fun j hj => absurd hj (Nat.not_lt_zero _), by rw [ne _ (by decide)]; exact h6, by rw [ne _ (by decide), ne _ (by decide), ne _ (by decide)]; exact h7⟩
theorem InvM.tear {I : Nat → Nat → Int32} {S : aS} (h : InvM I S) : InvM (up2 I 76 3 (nI 0)) (st_k S 0 S.2.2.1) := by
  obtain ⟨h1, h2, h3, h4, h5, h6, h7⟩ := h
  have ne : ∀ i, i ≠ 76 → up2 I 76 3 (nI 0) i = I i := fun i hi => by funext k; exact up2_ni hi
  exact ⟨h1.mv (ne _ (by decide)), up2_same _ _ _ _, fun k => absurd k (show ¬ (0 : Nat) = 1 by decide), by rw [up2_nk (by decide)]; exact h4, by rw [ne _ (by decide)]; exact h5, by rw [ne _ (by decide)]; exact h6, by rw [ne _ (by decide), ne _ (by decide), ne _ (by decide)]; exact h7⟩
theorem absR.cp {I I' : Nat → Nat → Int32} {P P' : Nat} {σ : aL} (h : absR I P σ) (hn : σ.1 ≤ 10) (e : ∀ j, j < 73 → I' P' j = I P j) : absR I' P' σ :=
  ⟨by rw [e 0 (by decide)]; exact h.1, by rw [e 1 (by decide)]; exact h.2.1, by rw [e 2 (by decide)]; exact h.2.2.1, fun s hs => by rw [e _ (by omega)]; exact h.2.2.2.1 s hs, fun c hc f hf => by rw [e _ (by omega)]; exact h.2.2.2.2 c hc f hf⟩
theorem InvM.image {I I1 : Nat → Nat → Int32} {B : Nat} {S : aS} (h : InvM I S) (hw : wfS B S) (hA : ∀ j, j < 73 → I1 78 j = I 77 j) (hF : ∀ i, i ≠ 78 → I1 i = I i) : InvM (up2 I1 76 3 (nI 1)) (st_k S 1 S.1) := by
  obtain ⟨h1, h2, h3, h4, h5, h6, h7⟩ := h
  have ne : ∀ i, i ≠ 76 → i ≠ 78 → up2 I1 76 3 (nI 1) i = I i := fun i hi h => (show up2 I1 76 3 (nI 1) i = I1 i by funext k; exact up2_ni hi).trans (hF i h)
  exact ⟨h1.mv (ne _ (by decide) (by decide)), up2_same _ _ _ _, fun _ => h1.cp hw.1.1 (fun j hj => by rw [up2_ni (by decide)]; exact hA j hj), by rw [up2_nk (by decide), hF 76 (by decide)]; exact h4, by rw [ne _ (by decide) (by decide)]; exact h5, by rw [ne _ (by decide) (by decide)]; exact h6, by rw [ne _ (by decide) (by decide), ne _ (by decide) (by decide), ne _ (by decide) (by decide)]; exact h7⟩
theorem absR.z {I : Nat → Nat → Int32} {σ : aL} {z : Int32} (h : absR I 77 σ) : absR (up2 I 77 2 z) 77 (ld_z σ z) :=
  ⟨by rw [up2_nk (by decide)]; exact h.1, by rw [up2_nk (by decide)]; exact h.2.1, up2_same _ _ _ _, fun s hs => by rw [up2_nk (by omega)]; exact h.2.2.2.1 s hs, fun c hc f hf => by rw [up2_nk (by omega)]; exact h.2.2.2.2 c hc f hf⟩
theorem absR.day {I : Nat → Nat → Int32} {σ : aL} {d : Nat} (h : absR I 77 σ) : absR (up2 I 77 0 (nI d)) 77 (ld_day σ d) :=
  ⟨up2_same _ _ _ _, by rw [up2_nk (by decide)]; exact h.2.1, by rw [up2_nk (by decide)]; exact h.2.2.1, fun s hs => by rw [up2_nk (by omega)]; exact h.2.2.2.1 s hs, fun c hc f hf => by rw [up2_nk (by omega)]; exact h.2.2.2.2 c hc f hf⟩
