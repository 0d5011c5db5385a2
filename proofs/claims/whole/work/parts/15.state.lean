/-! THE WHOLE STATE: (land, kept?, kept land, (tape's length, tape), found, (bits, sizes, numbers) of the sheets) -/
abbrev aS : Type := aL × Nat × aL × (Nat × (Nat → Nat)) × (Nat → Int32) × (Nat → Nat) × (Nat → Nat) × (Nat → Nat → Int32)
def InvC (I : Nat → Nat → Int32) (S : aS) : Prop := absL I 1 S.1 ∧ I 0 3 = nI S.2.1 ∧ (S.2.1 = 1 → absL I 27 S.2.2.1) ∧ I 0 5 = nI S.2.2.2.1.1 ∧ (∀ j, j < S.2.2.2.1.1 → I 40 j = nI (S.2.2.2.1.2 j)) ∧ (∀ i, i < 7 → I 67 i = S.2.2.2.2.1 i) ∧ (∀ s, s < 4 → I (68 + 2 * s) 1 = nI (S.2.2.2.2.2.1 s) ∧ I (68 + 2 * s) 2 = nI (S.2.2.2.2.2.2.1 s) ∧ ∀ j, j < 40 → I (69 + 2 * s) j = S.2.2.2.2.2.2.2 s j)
def wfSp (σ : aL) : Prop := ∀ s, s < 10 → σ.2.2.1 s = -1 ∨ ∃ c, c < σ.1 ∧ σ.2.2.1 s = nI c
def wfS (B : Nat) (S : aS) : Prop := wfL B S.1 ∧ S.2.1 ≤ 1 ∧ (S.2.1 = 1 → wfL B S.2.2.1) ∧ S.2.2.2.1.1 ≤ 120 ∧ (∀ j, S.2.2.2.1.2 j < 256) ∧ (∀ s, s < 4 → (S.2.2.2.2.2.1 s = 0 ∨ S.2.2.2.2.2.1 s = 8 ∨ S.2.2.2.2.2.1 s = 16 ∨ S.2.2.2.2.2.1 s = 32) ∧ S.2.2.2.2.2.2.1 s ≤ 40) ∧ wfSp S.1 ∧ (S.2.1 = 1 → wfSp S.2.2.1)
/-- scratch places of the class -/
def scr (i : Nat) : Prop := (14 ≤ i ∧ i < 27) ∨ (41 ≤ i ∧ i < 67)
theorem InvC.mv {I I' : Nat → Nat → Int32} {B : Nat} {S : aS} (h : InvC I S) (hw : wfS B S) (hf : ∀ i, ¬ scr i → i < 76 → I' i = I i) : InvC I' S := by
  obtain ⟨h1, h2, h3, h4, h5, h6, h7⟩ := h
  have e0 := hf 0 (by unfold scr; omega) (by decide)
  have e40 := hf 40 (by unfold scr; omega) (by decide)
  have e67 := hf 67 (by unfold scr; omega) (by decide)
  refine ⟨h1.mv hw.1.1 (fun i a b => hf i (by unfold scr; omega) (by omega)), by rw [e0]; exact h2, fun k => (h3 k).mv (hw.2.2.1 k).1 (fun i a b => hf i (by unfold scr; omega) (by omega)), by rw [e0]; exact h4, fun j hj => by rw [e40]; exact h5 j hj, fun i hi => by rw [e67]; exact h6 i hi, fun s hs => ?_⟩
  rw [hf (68 + 2 * s) (by unfold scr; omega) (by omega), hf (69 + 2 * s) (by unfold scr; omega) (by omega)]
  exact h7 s hs
def fdg (w : Nat) : Int32 := -1000001 - nI w
def st_f (S : aS) (w : Nat) : aS := (S.1, S.2.1, S.2.2.1, S.2.2.2.1, (fun i => if i = w then S.2.2.2.2.1 i + nI 1 else S.2.2.2.2.1 i), S.2.2.2.2.2)
def fnd (S : aS) (w : Nat) : Int32 × aS := (fdg w, st_f S w)
def st_l (S : aS) (σ : aL) : aS := (σ, S.2)
theorem InvC.tell {I : Nat → Nat → Int32} {B : Nat} {S : aS} {w : Nat} (h : InvC I S) (hf : wfS B S) : InvC (up2 I 67 w (I 67 w + nI 1)) (st_f S w) := by
  obtain ⟨h1, h2, h3, h4, h5, h6, h7⟩ := h
  have ne : ∀ i, i ≠ 67 → up2 I 67 w (I 67 w + nI 1) i = I i := fun i hi => by funext k; exact up2_ni hi
  refine ⟨h1.mv hf.1.1 (fun i a b => ne i (by omega)), by rw [ne 0 (by decide)]; exact h2, fun k => (h3 k).mv (hf.2.2.1 k).1 (fun i a b => ne i (by omega)), by rw [ne 0 (by decide)]; exact h4, fun j hj => by rw [ne 40 (by decide)]; exact h5 j hj, fun i hi => ?_, fun s hs => ?_⟩
  · by_cases e : i = w
    · subst e
      rw [up2_same]
      show _ = if i = i then _ else _
      rw [if_pos rfl, h6 i hi]
    · rw [up2_nk e]
      show _ = if i = w then _ else _
      rw [if_neg e]
      exact h6 i hi
  · rw [ne (68 + 2 * s) (by omega), ne (69 + 2 * s) (by omega)]
    exact h7 s hs
theorem InvC.land {I I' : Nat → Nat → Int32} {B : Nat} {S : aS} {σ : aL} (h : InvC I S) (hw : wfS B S) (hA : absL I' 1 σ) (hf : ∀ i, ¬ (1 ≤ i ∧ i < 14) → ¬ scr i → i < 76 → I' i = I i) : InvC I' (st_l S σ) := by
  obtain ⟨h1, h2, h3, h4, h5, h6, h7⟩ := h
  have e0 := hf 0 (by omega) (by unfold scr; omega) (by decide)
  have e40 := hf 40 (by omega) (by unfold scr; omega) (by decide)
  have e67 := hf 67 (by omega) (by unfold scr; omega) (by decide)
  refine ⟨hA, by rw [e0]; exact h2, fun k => (h3 k).mv (hw.2.2.1 k).1 (fun i a b => hf i (by omega) (by unfold scr; omega) (by omega)), by rw [e0]; exact h4, fun j hj => by rw [e40]; exact h5 j hj, fun i hi => by rw [e67]; exact h6 i hi, fun s hs => ?_⟩
  rw [hf (68 + 2 * s) (by omega) (by unfold scr; omega) (by omega), hf (69 + 2 * s) (by omega) (by unfold scr; omega) (by omega)]
  exact h7 s hs
/-- what a public method of the class does: its answer and the state behind it -/
def PC (I : Nat → Nat → Int32) (o : Int32 × aS) (r : Option Value) (M : mM) : Prop := ∃ (I' : Nat → Nat → Int32) (J' : Nat → Nat → Int64) (t' : Nat), r = some (.int o.1) ∧ M = mm I' J' t' ∧ InvC I' o.2 ∧ ∀ i, 76 ≤ i → I' i = I i
def tn (x : Int32) : Nat := x.toNatClampNeg
theorem tn_nI {a : Nat} (h : a < 2 ^ 31) : tn (nI a) = a := nI_clamp h
abbrev inR (x : Int32) (m : Nat) : Prop := 0 ≤ x ∧ x ≤ nI m
theorem inR_iff {x : Int32} {m : Nat} (hm : m < 2 ^ 31) : inR x m ↔ ∃ a, a ≤ m ∧ x = nI a := by
  constructor
  · rintro ⟨h1, h2⟩
    obtain ⟨j, hj, rfl⟩ := nI_of (fun z => absurd h1 (Int32.not_le.mpr z))
    exact ⟨j, (nI_leI hj hm).mp h2, rfl⟩
  · rintro ⟨a, ha, rfl⟩
    exact ⟨nI_pos' (by omega), nI_le ha hm⟩
theorem PC.tell {I I1 : Nat → Nat → Int32} {J : Nat → Nat → Int64} {t B w : Nat} {S : aS} {o : Int32 × aS} (h : InvC I1 S) (hw : wfS B S) (e : o = fnd S w) (hf : ∀ i, 76 ≤ i → I1 i = I i) : PC I o (some (.int (fdg w))) (mm (up2 I1 67 w (I1 67 w + nI 1)) J t) := by
  subst e
  exact ⟨_, _, _, rfl, rfl, h.tell hw, fun i hi => by
    rw [← hf i hi]
    funext k
    exact up2_ni (by omega)⟩
theorem PC.same {I I1 : Nat → Nat → Int32} {J : Nat → Nat → Int64} {t B : Nat} {S : aS} {o : Int32 × aS} {v : Int32} (h : InvC I S) (hw : wfS B S) (e : o = (v, S)) (hf : ∀ i, ¬ scr i → I1 i = I i) : PC I o (some (.int v)) (mm I1 J t) := by
  subst e
  exact ⟨_, _, _, rfl, rfl, h.mv hw (fun i a _ => hf i a), fun i hi => hf i (by unfold scr; omega)⟩
theorem PC.land {I I1 : Nat → Nat → Int32} {J : Nat → Nat → Int64} {t B : Nat} {S : aS} {o : Int32 × aS} {v : Int32} {σ : aL} (h : InvC I S) (hw : wfS B S) (e : o = (v, st_l S σ)) (hA : absL I1 1 σ) (hf : ∀ i, ¬ (1 ≤ i ∧ i < 14) → ¬ scr i → I1 i = I i) : PC I o (some (.int v)) (mm I1 J t) := by
  subst e
  exact ⟨_, _, _, rfl, rfl, h.land hw hA (fun i a b _ => hf i a b), fun i hi => hf i (by omega) (by unfold scr; omega)⟩
theorem frL.one {I I1 : Nat → Nat → Int32} (h : frL 1 I I1) : ∀ i, ¬ (1 ≤ i ∧ i < 14) → ¬ scr i → I1 i = I i := fun i a _ => h i (by omega)
