/-! THE REFERENCE: rows of numbers -/
def absR (I : Nat → Nat → Int32) (P : Nat) (σ : aL) : Prop := I P 0 = nI σ.2.2.2.1 ∧ I P 1 = nI σ.1 ∧ I P 2 = σ.2.2.2.2 ∧ (∀ s, s < 10 → I P (3 + s) = σ.2.2.1 s) ∧ (∀ c, c < σ.1 → ∀ f, f < 6 → I P (13 + 6 * c + f) = nI (σ.2.1 c f))
def frM (I I' : Nat → Nat → Int32) : Prop := ∀ i, i ≠ 77 → I' i = I i
theorem frM.rf {I : Nat → Nat → Int32} : frM I I := fun _ _ => rfl
theorem frM.tr {I I' I'' : Nat → Nat → Int32} (h : frM I I') (h' : frM I' I'') : frM I I'' := fun i hi => (h' i hi).trans (h i hi)
theorem frM.up {I : Nat → Nat → Int32} {k : Nat} {v : Int32} : frM I (up2 I 77 k v) := fun i hi => by
  funext b
  exact up2_ni hi
theorem absR.set {I : Nat → Nat → Int32} {σ : aL} {c f v : Nat} (h : absR I 77 σ) (hf : f < 6) : absR (up2 I 77 (13 + 6 * c + f) (nI v)) 77 (ld_cset σ c (k_set (σ.2.1 c) f v)) := by
  refine ⟨by rw [up2_nk (by omega)]; exact h.1, by rw [up2_nk (by omega)]; exact h.2.1, by rw [up2_nk (by omega)]; exact h.2.2.1, fun s hs => by rw [up2_nk (by omega)]; exact h.2.2.2.1 s hs, fun c' hc' f' hf' => ?_⟩
  show _ = nI ((if c' = c then k_set (σ.2.1 c) f v else σ.2.1 c') f')
  by_cases e : c' = c
  · subst e
    rw [if_pos rfl]
    by_cases e2 : f' = f
    · subst e2
      rw [up2_same]
      simp [k_set]
    · rw [up2_nk (by omega), h.2.2.2.2 c' hc' f' hf']
      simp [k_set, e2]
  · rw [if_neg e, up2_nk (by omega)]
    exact h.2.2.2.2 c' hc' f' hf'
theorem absR.congr {I : Nat → Nat → Int32} {P : Nat} {σ τ : aL} (h : absR I P σ) (e1 : τ.1 = σ.1) (e2 : ∀ c, c < σ.1 → ∀ f, f < 6 → τ.2.1 c f = σ.2.1 c f) (e3 : τ.2.2 = σ.2.2) : absR I P τ := by
  obtain ⟨n, k, rst⟩ := τ
  obtain ⟨n', k', rst'⟩ := σ
  cases e1
  cases e3
  exact ⟨h.1, h.2.1, h.2.2.1, h.2.2.2.1, fun c hc f hf => by rw [h.2.2.2.2 c hc f hf]; exact congrArg nI (e2 c hc f hf).symm⟩
theorem absR.mv {I I' : Nat → Nat → Int32} {P : Nat} {σ : aL} (h : absR I P σ) (e : I' P = I P) : absR I' P σ := by
  unfold absR
  rw [e]
  exact h
def InvM (I : Nat → Nat → Int32) (S : aS) : Prop := absR I 77 S.1 ∧ I 76 3 = nI S.2.1 ∧ (S.2.1 = 1 → absR I 78 S.2.2.1) ∧ I 76 10 = nI S.2.2.2.1.1 ∧ (∀ j, j < S.2.2.2.1.1 → I 82 j = nI (S.2.2.2.1.2 j)) ∧ (I 80 0 = S.2.2.2.2.1 0 + S.2.2.2.2.1 1 + S.2.2.2.2.1 2 + S.2.2.2.2.1 3 + S.2.2.2.2.1 4 + S.2.2.2.2.1 5 + S.2.2.2.2.1 6 ∧ ∀ i, i < 7 → I 80 (i + 1) = S.2.2.2.2.1 i) ∧ (∀ s, s < 4 → I 86 s = nI (S.2.2.2.2.2.1 s) ∧ I 87 s = nI (S.2.2.2.2.2.2.1 s) ∧ ∀ j, j < 40 → I 88 (40 * s + j) = S.2.2.2.2.2.2.2 s j)
/-- essential places of the reference -/
theorem InvM.mv {I I' : Nat → Nat → Int32} {S : aS} (h : InvM I S) (e77 : I' 77 = I 77) (e78 : I' 78 = I 78) (e80 : I' 80 = I 80) (e82 : I' 82 = I 82) (e86 : I' 86 = I 86) (e87 : I' 87 = I 87) (e88 : I' 88 = I 88) (f3 : I' 76 3 = I 76 3) (f10 : I' 76 10 = I 76 10) : InvM I' S := by
  obtain ⟨h1, h2, h3, h4, h5, h6, h7⟩ := h
  exact ⟨h1.mv e77, f3.trans h2, fun k => (h3 k).mv e78, f10.trans h4, by rw [e82]; exact h5, by rw [e80]; exact h6, by rw [e86, e87, e88]; exact h7⟩
theorem InvM.land {I I' : Nat → Nat → Int32} {S : aS} {σ : aL} (h : InvM I S) (hA : absR I' 77 σ) (e78 : I' 78 = I 78) (e80 : I' 80 = I 80) (e82 : I' 82 = I 82) (e86 : I' 86 = I 86) (e87 : I' 87 = I 87) (e88 : I' 88 = I 88) (f3 : I' 76 3 = I 76 3) (f10 : I' 76 10 = I 76 10) : InvM I' (st_l S σ) := by
  obtain ⟨h1, h2, h3, h4, h5, h6, h7⟩ := h
  exact ⟨hA, f3.trans h2, fun k => (h3 k).mv e78, f10.trans h4, by rw [e82]; exact h5, by rw [e80]; exact h6, by rw [e86, e87, e88]; exact h7⟩
def PM (I : Nat → Nat → Int32) (o : Int32 × aS) (r : Option Value) (M : mM) : Prop := ∃ (I' : Nat → Nat → Int32) (J' : Nat → Nat → Int64) (t' : Nat), r = some (.int o.1) ∧ M = mm I' J' t' ∧ InvM I' o.2 ∧ ∀ i, i < 76 → I' i = I i
/-- scratch of the reference: aside, isThere, items, purseThen, moved; and fields of the object but isKept, taped -/
def scM (I I' : Nat → Nat → Int32) : Prop := (∀ i, i ≠ 76 → i ≠ 79 → i ≠ 81 → i ≠ 84 → i ≠ 85 → i ≠ 89 → I' i = I i) ∧ I' 76 3 = I 76 3 ∧ I' 76 10 = I 76 10
theorem scM.rf {I : Nat → Nat → Int32} : scM I I := ⟨fun _ _ _ _ _ _ _ => rfl, rfl, rfl⟩
theorem PM.same {I I1 : Nat → Nat → Int32} {J : Nat → Nat → Int64} {t : Nat} {S : aS} {o : Int32 × aS} {v : Int32} (h : InvM I S) (e : o = (v, S)) (hf : scM I I1) : PM I o (some (.int v)) (mm I1 J t) := by
  subst e
  have g : ∀ i, i ≠ 76 ∧ i ≠ 79 ∧ i ≠ 81 ∧ i ≠ 84 ∧ i ≠ 85 ∧ i ≠ 89 → I1 i = I i := fun i hi => hf.1 i hi.1 hi.2.1 hi.2.2.1 hi.2.2.2.1 hi.2.2.2.2.1 hi.2.2.2.2.2
  exact ⟨_, _, _, rfl, rfl, h.mv (g _ (by decide)) (g _ (by decide)) (g _ (by decide)) (g _ (by decide)) (g _ (by decide)) (g _ (by decide)) (g _ (by decide)) hf.2.1 hf.2.2, fun i hi => g i (by omega)⟩
theorem PM.land {I I1 I2 : Nat → Nat → Int32} {J : Nat → Nat → Int64} {t : Nat} {S : aS} {o : Int32 × aS} {v : Int32} {σ : aL} (h : InvM I S) (e : o = (v, st_l S σ)) (hf : scM I I1) (hA : absR I2 77 σ) (hf2 : frM I1 I2) : PM I o (some (.int v)) (mm I2 J t) := by
  subst e
  have g : ∀ i, i ≠ 76 ∧ i ≠ 79 ∧ i ≠ 81 ∧ i ≠ 84 ∧ i ≠ 85 ∧ i ≠ 89 ∧ i ≠ 77 → I2 i = I i := fun i hi => (hf2 i hi.2.2.2.2.2.2).trans (hf.1 i hi.1 hi.2.1 hi.2.2.1 hi.2.2.2.1 hi.2.2.2.2.1 hi.2.2.2.2.2.1)
  have e76 := hf2 76 (by decide)
  exact ⟨_, _, _, rfl, rfl, h.land hA (g _ (by decide)) (g _ (by decide)) (g _ (by decide)) (g _ (by decide)) (g _ (by decide)) (g _ (by decide)) (by rw [e76]; exact hf.2.1) (by rw [e76]; exact hf.2.2), fun i hi => g i (by omega)⟩
def mTell (I : Nat → Nat → Int32) (w : Nat) : Nat → Nat → Int32 := up2 (up2 I 80 (w + 1) (I 80 (w + 1) + nI 1)) 80 0 (I 80 0 + nI 1)
theorem InvM.tell {I : Nat → Nat → Int32} {S : aS} {w : Nat} (h : InvM I S) (hw : w < 7) : InvM (mTell I w) (st_f S w) := by
  obtain ⟨h1, h2, h3, h4, h5, h6, h7⟩ := h
  have ne : ∀ i, i ≠ 80 → mTell I w i = I i := fun i hi => by funext k; rw [mTell, up2_ni hi, up2_ni hi]
  refine ⟨h1.mv (ne _ (by decide)), by rw [ne _ (by decide)]; exact h2, fun k => (h3 k).mv (ne _ (by decide)), by rw [ne _ (by decide)]; exact h4, by rw [ne _ (by decide)]; exact h5, ⟨?_, fun i hi => ?_⟩, by rw [ne _ (by decide), ne _ (by decide), ne _ (by decide)]; exact h7⟩
  · rw [mTell, up2_same, h6.1]
    show _ = (if 0 = w then _ else _) + (if 1 = w then _ else _) + (if 2 = w then _ else _) + (if 3 = w then _ else _) + (if 4 = w then _ else _) + (if 5 = w then _ else _) + (if 6 = w then _ else _)
    rcases (show w = 0 ∨ w = 1 ∨ w = 2 ∨ w = 3 ∨ w = 4 ∨ w = 5 ∨ w = 6 by omega) with rfl | rfl | rfl | rfl | rfl | rfl | rfl <;> simp only [if_true, if_false, reduceIte, Nat.reduceEqDiff, Nat.zero_ne_one, Nat.one_ne_zero] <;> ac_rfl
  · show mTell I w 80 (i + 1) = if i = w then _ else _
    by_cases e : i = w
    · subst e
      rw [if_pos rfl, mTell, up2_nk (by omega), up2_same, h6.2 i hi]
    · rw [if_neg e, mTell, up2_nk (by omega), up2_nk (by omega)]
      exact h6.2 i hi
theorem PM.tell {I I1 : Nat → Nat → Int32} {J : Nat → Nat → Int64} {t w : Nat} {S : aS} {o : Int32 × aS} (h : InvM I S) (hw : w < 7) (e : o = fnd S w) (hf : scM I I1) : PM I o (some (.int (fdg w))) (mm (mTell I1 w) J t) := by
  subst e
  have g : ∀ i, i ≠ 76 ∧ i ≠ 79 ∧ i ≠ 81 ∧ i ≠ 84 ∧ i ≠ 85 ∧ i ≠ 89 → I1 i = I i := fun i hi => hf.1 i hi.1 hi.2.1 hi.2.2.1 hi.2.2.2.1 hi.2.2.2.2.1 hi.2.2.2.2.2
  have h2 : InvM I1 S := h.mv (g _ (by decide)) (g _ (by decide)) (g _ (by decide)) (g _ (by decide)) (g _ (by decide)) (g _ (by decide)) (g _ (by decide)) hf.2.1 hf.2.2
  exact ⟨_, _, _, rfl, rfl, h2.tell hw, fun i hi => by
    rw [← g i (by omega)]
    funext k
    rw [mTell, up2_ni (by omega), up2_ni (by omega)]⟩
