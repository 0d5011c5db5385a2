/-! THE PUBLIC METHODS (4): status, sheets -/
def f_sum (f : Nat → Int32) : Nat → Int32
  | 0 => nI 0
  | c + 1 => f_sum f c + f c
theorem f_sum7 (f : Nat → Int32) : f_sum f 7 = f 0 + f 1 + f 2 + f 3 + f 4 + f 5 + f 6 := by
  show (((((((nI 0 + f 0) + f 1) + f 2) + f 3) + f 4) + f 5) + f 6) = _
  rw [show nI 0 + f 0 = f 0 from Int32.zero_add _]
def op_status (S : aS) (x : Int32) : Int32 × aS := if (-1 ≤ x ∧ x ≤ nI 6) then (if x = -1 then (f_sum S.2.2.2.2.1 7, S) else (S.2.2.2.2.1 (tn x), S)) else fnd S 0
theorem z_stat {x : Int32} (h : -1 ≤ x ∧ x ≤ nI 6) : x = -1 ∨ ∃ a, a < 7 ∧ x = nI a := by
  have e1 := Int32.le_iff_toInt_le.mp h.1
  rw [show (-1 : Int32).toInt = -1 from rfl] at e1
  by_cases hx : x < 0
  · refine Or.inl (Int32.toInt_inj.mp ?_)
    have := Int32.lt_iff_toInt_lt.mp hx
    rw [show (0 : Int32).toInt = 0 from rfl] at this
    rw [show (-1 : Int32).toInt = -1 from rfl]
    omega
  · obtain ⟨a, ha, rfl⟩ := nI_of hx
    exact Or.inr ⟨a, by have := (nI_leI ha (by decide)).mp h.2; omega, rfl⟩
abbrev okBits (y : Int32) : Prop := y = nI 0 ∨ y = nI 8 ∨ y = nI 16 ∨ y = nI 32
def st_s (S : aS) (bs zs : Nat → Nat) (ns : Nat → Nat → Int32) : aS := (S.1, S.2.1, S.2.2.1, S.2.2.2.1, S.2.2.2.2.1, bs, zs, ns)
def upN {α : Type} (f : Nat → α) (s : Nat) (v : α) : Nat → α := fun i => if i = s then v else f i
def op_sheet (S : aS) (x y z : Int32) : Int32 × aS := if inR x 3 then (if okBits y then (if z < 0 then fnd S 6 else if z ≤ nI 40 then (nI (if y = nI 0 then 0 else tn z), st_s S (upN S.2.2.2.2.2.1 (tn x) (tn y)) (upN S.2.2.2.2.2.2.1 (tn x) (if y = nI 0 then 0 else tn z)) (upN S.2.2.2.2.2.2.2 (tn x) (fun _ => nI 0))) else fnd S 0) else fnd S 0) else fnd S 0
def cutTo (v : Int32) (b : Nat) : Int32 := if b = 8 then v.toInt8.toInt32 else if b = 16 then v.toInt16.toInt32 else v
def op_write (S : aS) (x y v : Int32) : Int32 × aS := if inR x 3 then (if S.2.2.2.2.2.1 (tn x) = 0 then fnd S 5 else if hasC (S.2.2.2.2.2.2.1 (tn x)) y then (nI 1, st_s S S.2.2.2.2.2.1 S.2.2.2.2.2.2.1 (upN S.2.2.2.2.2.2.2 (tn x) (upN (S.2.2.2.2.2.2.2 (tn x)) (tn y) (cutTo v (S.2.2.2.2.2.1 (tn x)))))) else fnd S 0) else fnd S 0
/-- a sheet of the class becomes another -/
theorem InvC.sheet {I I' : Nat → Nat → Int32} {B : Nat} {S : aS} {s b z : Nat} {n : Nat → Int32} (h : InvC I S) (hw : wfS B S) (hs : s < 4) (hb : I' (68 + 2 * s) 1 = nI b) (hz : I' (68 + 2 * s) 2 = nI z) (hn : ∀ j, j < 40 → I' (69 + 2 * s) j = n j) (hf : ∀ i, i ≠ 68 + 2 * s → i ≠ 69 + 2 * s → ¬ scr i → I' i = I i) : InvC I' (st_s S (upN S.2.2.2.2.2.1 s b) (upN S.2.2.2.2.2.2.1 s z) (upN S.2.2.2.2.2.2.2 s n)) := by
  obtain ⟨h1, h2, h3, h4, h5, h6, h7⟩ := h
  have g : ∀ i, i < 68 → ¬ scr i → I' i = I i := fun i hi hx => hf i (by omega) (by omega) hx
  have e0 := g 0 (by omega) (by unfold scr; omega)
  have e40 := g 40 (by omega) (by unfold scr; omega)
  have e67 := g 67 (by omega) (by unfold scr; omega)
  refine ⟨h1.mv hw.1.1 (fun i a b => g i (by omega) (by unfold scr; omega)), by rw [e0]; exact h2, fun k => (h3 k).mv (hw.2.2.1 k).1 (fun i a b => g i (by omega) (by unfold scr; omega)), by rw [e0]; exact h4, fun j hj => by rw [e40]; exact h5 j hj, fun i hi => by rw [e67]; exact h6 i hi, fun s' hs' => ?_⟩
  show I' (68 + 2 * s') 1 = nI (if s' = s then b else _) ∧ I' (68 + 2 * s') 2 = nI (if s' = s then z else _) ∧ ∀ j, j < 40 → I' (69 + 2 * s') j = (if s' = s then n else S.2.2.2.2.2.2.2 s') j
  by_cases e : s' = s
  · subst e
    simp only [if_true]
    exact ⟨hb, hz, hn⟩
  · simp only [e, if_false]
    rw [hf (68 + 2 * s') (by omega) (by omega) (by unfold scr; omega), hf (69 + 2 * s') (by omega) (by omega) (by unfold scr; omega)]
    exact h7 s' hs'
theorem InvM.sheet {I I' : Nat → Nat → Int32} {S : aS} {s b z : Nat} {n : Nat → Int32} (h : InvM I S) (hs : s < 4) (h86 : ∀ i, I' 86 i = if i = s then nI b else I 86 i) (h87 : ∀ i, I' 87 i = if i = s then nI z else I 87 i) (h88 : ∀ j, j < 40 → I' 88 (40 * s + j) = n j) (h88' : ∀ i j, i < 4 → i ≠ s → j < 40 → I' 88 (40 * i + j) = I 88 (40 * i + j)) (hf : ∀ i, i ≠ 86 → i ≠ 87 → i ≠ 88 → i ≠ 89 → I' i = I i) : InvM I' (st_s S (upN S.2.2.2.2.2.1 s b) (upN S.2.2.2.2.2.2.1 s z) (upN S.2.2.2.2.2.2.2 s n)) := by
  obtain ⟨h1, h2, h3, h4, h5, h6, h7⟩ := h
  have g : ∀ i, i < 86 → I' i = I i := fun i hi => hf i (by omega) (by omega) (by omega) (by omega)
  refine ⟨h1.mv (g _ (by decide)), by rw [g _ (by decide)]; exact h2, fun k => (h3 k).mv (g _ (by decide)), by rw [g _ (by decide)]; exact h4, by rw [g _ (by decide)]; exact h5, by rw [g _ (by decide)]; exact h6, fun s' hs' => ?_⟩
  show I' 86 s' = nI (if s' = s then b else _) ∧ I' 87 s' = nI (if s' = s then z else _) ∧ ∀ j, j < 40 → I' 88 (40 * s' + j) = (if s' = s then n else S.2.2.2.2.2.2.2 s') j
  rw [h86, h87]
  by_cases e : s' = s
  · subst e
    simp only [if_true, true_and]
    exact h88
  · simp only [e, if_false]
    exact ⟨(h7 s' hs').1, (h7 s' hs').2.1, fun j hj => by rw [h88' s' j hs' e hj]; exact (h7 s' hs').2.2 j hj⟩
