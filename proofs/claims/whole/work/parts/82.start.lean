/-! THE START: both objects are made -/
theorem up2_kn {f : Nat → Nat → Option Nat} {q k0 i k : Nat} {v : Option Nat} (h : f i k = none) (hk : k ≠ k0) : up2 f q k0 v i k = none := by
  unfold up2
  by_cases e : i = q
  · rw [if_pos e, if_neg hk]; exact h
  · rw [if_neg e]; exact h
theorem up2_in {f : Nat → Nat → Option Nat} {q k0 i k : Nat} {v : Option Nat} (h : f i k = none) (hi : i ≠ q) : up2 f q k0 v i k = none := (up2_ni hi).trans h
theorem lam_kn {f : Nat → Nat → Option Nat} {i k : Nat} (h : f i k = none) (hk : 11 ≤ k) : (fun a b => if a = 45 then (if b < 11 then some (45 + 1 + b) else none) else f a b) i k = none := by
  show (if i = 45 then (if k < 11 then some (45 + 1 + k) else none) else f i k) = none
  split
  · exact if_neg (by omega)
  · exact h
theorem lam_in {f : Nat → Nat → Option Nat} {i k : Nat} (h : f i k = none) (hi : i ≠ 45) : (fun a b => if a = 45 then (if b < 11 then some (45 + 1 + b) else none) else f a b) i k = none := (if_neg hi).trans h
def R00 : Nat → Nat → Option Nat := fun _ _ => none
theorem R_khi {i k : Nat} (hk : 25 ≤ k) : RMD (RTC R00) i k = none := by
  unfold RMD RTC RLd
  repeat (first | exact rfl | refine up2_kn ?_ (by omega) | refine lam_kn ?_ (by omega))
theorem R_ihi {i k : Nat} (hi : 90 ≤ i) : RMD (RTC R00) i k = none := by
  unfold RMD RTC RLd
  repeat (first | exact rfl | refine up2_in ?_ (by omega) | refine lam_in ?_ (by omega))
theorem Rf_ihi {i k : Nat} (hi : 90 ≤ i) : Rf 42 i k = none := by
  unfold Rf
  repeat rw [if_neg (by omega)]
theorem iteN {p : Prop} [Decidable p] {a b : Option Nat} (ha : a = none) (hb : b = none) : (if p then a else b) = none := by
  by_cases e : p
  · rw [if_pos e]; exact ha
  · rw [if_neg e]; exact hb
theorem Rf_khi {i k : Nat} (hk : 25 ≤ k) : Rf 42 i k = none := by
  obtain ⟨j, rfl⟩ : ∃ j, k = j + 25 := ⟨k - 25, by omega⟩
  unfold Rf
  repeat (first | refine iteN (if_neg (by omega)) ?_ | refine iteN rfl ?_ | exact rfl)
theorem R_mid : ∀ i, i < 90 → ∀ k, k < 25 → RMD (RTC R00) i k = Rf 42 i k := by decide +kernel
theorem R_fin : RMD (RTC R00) = Rf 42 := by
  funext i k
  by_cases hk : k < 25
  · by_cases hi : i < 90
    · exact R_mid i hi k hk
    · rw [R_ihi (by omega), Rf_ihi (by omega)]
  · rw [R_khi (by omega), Rf_khi (by omega)]
theorem sh_90 : sh0.take 90 = sh0 := rfl
theorem IMD_ni {I : Nat → Nat → Int32} {i : Nat} (h : i ≠ 77) : IMD I i = I i := by
  funext k
  unfold IMD
  repeat rw [up2_ni h]
def σ00 : aL := (0, fun _ _ => 0, fun _ => -1, 0, nI 1)
def S00 : aS := (σ00, 0, σ00, (0, fun _ => 0), fun _ => nI 0, fun _ => 0, fun _ => 0, fun _ _ => nI 0)
theorem start_C {I : Nat → Nat → Int32} (h14 : I 1 4 = nI 1) (h1k : ∀ k, k ≠ 4 → I 1 k = 0) (h3 : ∀ s, s < 10 → I 3 s = -1) (hz : ∀ i k, (i = 0 ∨ 66 < i) → 44 ≠ i → True → I i k = 0) : InvC (IMD I) S00 := by
  have e : ∀ i, i ≠ 77 → IMD I i = I i := fun i hi => IMD_ni hi
  refine ⟨⟨by rw [e 1 (by decide)]; exact h1k 2 (by decide), fun c hc => absurd hc (Nat.not_lt_zero _), fun s hs => by rw [e (1 + 2) (by decide)]; exact h3 s hs, by rw [e 1 (by decide)]; exact h1k 3 (by decide), by rw [e 1 (by decide)]; exact h14⟩, by rw [e 0 (by decide)]; exact hz 0 3 (by omega) (by decide) trivial, fun z => absurd z (show ¬ (0 : Nat) = 1 by decide), by rw [e 0 (by decide)]; exact hz 0 5 (by omega) (by decide) trivial, fun j hj => absurd hj (Nat.not_lt_zero _), fun i hi => by rw [e 67 (by decide)]; exact hz 67 i (by omega) (by decide) trivial, fun s hs => ?_⟩
  rw [e (68 + 2 * s) (by omega), e (69 + 2 * s) (by omega)]
  exact ⟨hz _ 1 (by omega) (by omega) trivial, hz _ 2 (by omega) (by omega) trivial, fun j _ => hz _ j (by omega) (by omega) trivial⟩
theorem start_M {I : Nat → Nat → Int32} (hz : ∀ i k, 76 ≤ i → I i k = 0) : InvM (IMD I) S00 := by
  have e : ∀ i, i ≠ 77 → IMD I i = I i := fun i hi => IMD_ni hi
  have h77 : ∀ k, (k = 0 ∨ k = 1) → IMD I 77 k = nI 0 := fun k hk => by
    rcases hk with rfl | rfl
    · unfold IMD
      repeat rw [up2_nk (by decide)]
      exact hz 77 0 (by decide)
    · unfold IMD
      repeat rw [up2_nk (by decide)]
      exact hz 77 1 (by decide)
  have h2 : IMD I 77 2 = nI 1 := by rfl
  have hs : ∀ s, s < 10 → IMD I 77 (3 + s) = -1 := fun s hs => by
    rcases (show s = 0 ∨ s = 1 ∨ s = 2 ∨ s = 3 ∨ s = 4 ∨ s = 5 ∨ s = 6 ∨ s = 7 ∨ s = 8 ∨ s = 9 by omega) with rfl | rfl | rfl | rfl | rfl | rfl | rfl | rfl | rfl | rfl <;> rfl
  refine ⟨⟨h77 0 (Or.inl rfl), h77 1 (Or.inr rfl), h2, hs, fun c hc => absurd hc (Nat.not_lt_zero _)⟩, by rw [e 76 (by decide)]; exact hz 76 3 (by decide), fun z => absurd z (show ¬ (0 : Nat) = 1 by decide), by rw [e 76 (by decide)]; exact hz 76 10 (by decide), fun j hj => absurd hj (Nat.not_lt_zero _), ⟨by rw [e 80 (by decide)]; exact (hz 80 0 (by decide)).trans (by decide), fun i _ => by rw [e 80 (by decide)]; exact hz 80 (i + 1) (by decide)⟩, fun s _ => ?_⟩
  rw [e 86 (by decide), e 87 (by decide), e 88 (by decide)]
  exact ⟨hz 86 s (by decide), hz 87 s (by decide), fun j _ => hz 88 (40 * s + j) (by decide)⟩
theorem start_W : wfS 0 S00 := ⟨⟨Nat.zero_le _, fun c hc => absurd hc (Nat.not_lt_zero _), Nat.zero_le _, (by decide)⟩, Nat.zero_le _, fun z => absurd z (show ¬ (0 : Nat) = 1 by decide), Nat.zero_le _, fun _ => (show 0 < 256 by decide), fun s _ => ⟨Or.inl rfl, Nat.zero_le _⟩, fun s _ => Or.inl rfl, fun z => absurd z (show ¬ (0 : Nat) = 1 by decide)⟩
theorem InvM.fr {I I1 : Nat → Nat → Int32} {S : aS} (h : InvM I S) (hf : ∀ i, 76 ≤ i → I1 i = I i) : InvM I1 S := h.mv (hf _ (by decide)) (hf _ (by decide)) (hf _ (by decide)) (hf _ (by decide)) (hf _ (by decide)) (hf _ (by decide)) (hf _ (by decide)) (by rw [hf 76 (by decide)]) (by rw [hf 76 (by decide)])
theorem InvC.fr {I I1 : Nat → Nat → Int32} {B : Nat} {S : aS} (h : InvC I S) (hw : wfS B S) (hf : ∀ i, i < 76 → I1 i = I i) : InvC I1 S := h.mv hw (fun i _ hi => hf i hi)
