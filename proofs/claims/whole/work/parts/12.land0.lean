/-! LANDS: the pure words -/
abbrev aL : Type := Nat × (Nat → Nat → Nat) × (Nat → Int32) × Nat × Int32
def absL (I : Nat → Nat → Int32) (b : Nat) (σ : aL) : Prop := I b 2 = nI σ.1 ∧ (∀ c, c < σ.1 → absK I (b + 3 + c) (σ.2.1 c)) ∧ (∀ s, s < 10 → I (b + 2) s = σ.2.2.1 s) ∧ I b 3 = nI σ.2.2.2.1 ∧ I b 4 = σ.2.2.2.2
def wfL (B : Nat) (σ : aL) : Prop := σ.1 ≤ 10 ∧ (∀ c, c < σ.1 → wfK B (σ.2.1 c)) ∧ σ.2.2.2.1 ≤ 999 ∧ B < 1000000
def bitsTo (P : Nat → Bool) : Nat → Nat
  | 0 => 0
  | c + 1 => bitsTo P c + (if P c then 2 ^ c else 0)
theorem bitsTo_lt (P : Nat → Bool) : ∀ c, bitsTo P c < 2 ^ c
  | 0 => Nat.one_pos
  | c + 1 => by
    have h := bitsTo_lt P c
    rw [bitsTo, Nat.pow_succ]
    split <;> omega
theorem bitsTo_le (P : Nat → Bool) {c : Nat} (h : c ≤ 10) : bitsTo P c < 1024 := Nat.lt_of_lt_of_le (bitsTo_lt P c) (Nat.pow_le_pow_right (by decide) h)
theorem z_shl1 {c : Nat} (h : c < 31) : nI 1 <<< (nI c &&& 31) = nI (2 ^ c) := by
  have h2 : 2 ^ c < 2 ^ 31 := Nat.pow_lt_pow_right (by decide) h
  rw [pk_shlN (nI c &&& 31) c (s_l c (by omega)) (by omega), Nat.one_mul]
theorem z_or {s c : Nat} (hs : s < 2 ^ c) : nI s ||| nI (2 ^ c) = nI (s + 2 ^ c) := by
  rw [fa_or, Nat.or_comm]
  have h := Nat.two_pow_add_eq_or_of_lt hs 1
  rw [Nat.mul_one] at h
  rw [← h, Nat.add_comm]
theorem z_bit {s c : Nat} (hs : s < 2 ^ 31) (hc : c < 31) : (nI s >>> (nI c &&& 31)) &&& nI 1 = nI (s / 2 ^ c % 2) := by
  rw [pk_shrN hs (nI c &&& 31) c (s_l c (by omega)), show nI 1 = nI (2 ^ 1 - 1) from rfl, fa_mask]
theorem z_p10 {c : Nat} (h : c ≤ 10) : 2 ^ c ≤ 1024 := Nat.pow_le_pow_right (by decide) h
theorem z_tb (s c : Nat) : s / 2 ^ c % 2 = 1 ↔ s.testBit c = true := by
  rw [Nat.testBit_eq_decide_div_mod_eq, decide_eq_true_eq]
def ld_in (σ : aL) (p : Nat) : Nat := bitsTo (fun c => decide (σ.2.1 c 1 = p)) σ.1
def ld_ly (σ : aL) (p : Nat) : Nat := bitsTo (fun c => decide (σ.2.1 c 4 = p)) σ.1
def ld_sum (σ : aL) (s : Nat) : Nat := fb_sm (fun c => if s.testBit c then k_now (σ.2.1 c) else 0) σ.1
def ld_sumT (σ : aL) (s : Nat) : Nat := fb_sm (fun c => if s.testBit c then k_paid (σ.2.1 c) (σ.2.1 c 1) else 0) σ.1
def ld_turns (σ : aL) : Nat := fb_sm (fun c => σ.2.1 c 5) σ.1
def ld_held (σ : aL) : Nat := fb_ct (fun s => decide (σ.2.2.1 s ≠ -1)) 10
def ld_cset (σ : aL) (c : Nat) (k : Nat → Nat) : aL := (σ.1, (fun c' => if c' = c then k else σ.2.1 c'), σ.2.2)
def ld_pay (σ : aL) (s to m : Nat) : aL := (σ.1, (fun c => if c < m ∧ s.testBit c = true then k_set (k_turn (σ.2.1 c)) 1 to else σ.2.1 c), σ.2.2)
def ld_add (σ : aL) (kd kg sp : Nat) : aL := (σ.1 + 1, (fun c => if c = σ.1 then (fun f => if f = 0 then kd else if f = 2 then kg else if f = 3 then sp else 0) else σ.2.1 c), σ.2.2)
def frL (b : Nat) (I I' : Nat → Nat → Int32) : Prop := ∀ i, (i < b ∨ b + 13 ≤ i) → I' i = I i
theorem frL.rf {b : Nat} {I : Nat → Nat → Int32} : frL b I I := fun _ _ => rfl
theorem frL.tr {b : Nat} {I I' I'' : Nat → Nat → Int32} (h : frL b I I') (h' : frL b I' I'') : frL b I I'' := fun i hi => (h' i hi).trans (h i hi)
theorem absL.cset {I I' : Nat → Nat → Int32} {b c : Nat} {σ : aL} {k : Nat → Nat} (h : absL I b σ) (hk : absK I' (b + 3 + c) k) (hf : ∀ i, i ≠ b + 3 + c → I' i = I i) : absL I' b (ld_cset σ c k) := by
  refine ⟨by rw [hf b (by omega)]; exact h.1, fun c' hc' => ?_, fun s hs => by rw [hf (b + 2) (by omega)]; exact h.2.2.1 s hs, by rw [hf b (by omega)]; exact h.2.2.2.1, by rw [hf b (by omega)]; exact h.2.2.2.2⟩
  show absK I' (b + 3 + c') (if c' = c then k else σ.2.1 c')
  by_cases e : c' = c
  · subst e
    rw [if_pos rfl]
    exact hk
  · rw [if_neg e]
    intro f hf6
    rw [hf (b + 3 + c') (by omega)]
    exact h.2.1 c' hc' f hf6
theorem frL.coin {b c : Nat} {I I' : Nat → Nat → Int32} (hc : c < 10) (hf : ∀ i, i ≠ b + 3 + c → I' i = I i) : frL b I I' := fun i hi => hf i (by omega)
theorem absL.congr {I : Nat → Nat → Int32} {b : Nat} {σ τ : aL} (h : absL I b σ) (e1 : τ.1 = σ.1) (e2 : ∀ c, c < σ.1 → τ.2.1 c = σ.2.1 c) (e3 : τ.2.2 = σ.2.2) : absL I b τ := by
  obtain ⟨n, k, rst⟩ := τ
  obtain ⟨n', k', rst'⟩ := σ
  cases e1
  cases e3
  exact ⟨h.1, fun c hc => by rw [e2 c hc]; exact h.2.1 c hc, h.2.2⟩
theorem absL.mv {I I' : Nat → Nat → Int32} {b : Nat} {σ : aL} (h : absL I b σ) (hn : σ.1 ≤ 10) (hf : ∀ i, b ≤ i → i < b + 13 → I' i = I i) : absL I' b σ := by
  refine ⟨by rw [hf b (by omega) (by omega)]; exact h.1, fun c hc f h6 => by rw [hf (b + 3 + c) (by omega) (by omega)]; exact h.2.1 c hc f h6, fun s hs => by rw [hf (b + 2) (by omega) (by omega)]; exact h.2.2.1 s hs, by rw [hf b (by omega) (by omega)]; exact h.2.2.2.1, by rw [hf b (by omega) (by omega)]; exact h.2.2.2.2⟩
theorem ld_pay_at (σ : aL) (s to c : Nat) : (ld_pay σ s to c).2.1 c = σ.2.1 c := by simp [ld_pay]
theorem ld_pay_0 (σ : aL) (s to : Nat) : ld_pay σ s to 0 = σ := by simp [ld_pay]
theorem ld_pay_t {σ : aL} {s to c : Nat} (h : s.testBit c = true) : ld_pay σ s to (c + 1) = ld_cset (ld_pay σ s to c) c (k_set (k_turn (σ.2.1 c)) 1 to) := by
  unfold ld_pay ld_cset
  congr 2
  funext c'
  by_cases e : c' = c
  · subst e
    simp [h]
  · simp only [e, if_false, show c' < c + 1 ↔ c' < c by omega]
theorem ld_pay_f {σ : aL} {s to c : Nat} (h : ¬ s.testBit c = true) : ld_pay σ s to (c + 1) = ld_pay σ s to c := by
  unfold ld_pay
  congr 2
  funext c'
  by_cases e : c' = c
  · subst e
    simp [h]
  · simp only [show c' < c + 1 ↔ c' < c by omega]
def ld_payA (σ : aL) (s to : Nat) : aL := ld_pay σ s to σ.1
theorem wf_payA {B : Nat} {σ : aL} {s to : Nat} (h : wfL B σ) (ht : to < 4) (hB : B + 2 < 1000000) : wfL (B + 2) (ld_payA σ s to) := by
  refine ⟨h.1, fun c hc => ?_, h.2.2.1, hB⟩
  have h9 := h.2.1 c hc
  show wfK (B + 2) (if c < σ.1 ∧ s.testBit c = true then _ else _)
  split
  · exact wf_pay h9 hB ht
  · exact ⟨h9.1, h9.2.1, h9.2.2.1, h9.2.2.2.1, h9.2.2.2.2.1, by have := h9.2.2.2.2.2.1; omega, hB⟩
theorem wfK.up {B B' : Nat} {k : Nat → Nat} (h : wfK B k) (h1 : B ≤ B') (h2 : B' < 1000000) : wfK B' k := ⟨h.1, h.2.1, h.2.2.1, h.2.2.2.1, h.2.2.2.2.1, by have := h.2.2.2.2.2.1; omega, h2⟩
theorem wfL.up {B B' : Nat} {σ : aL} (h : wfL B σ) (h1 : B ≤ B') (h2 : B' < 1000000) : wfL B' σ := ⟨h.1, fun c hc => (h.2.1 c hc).up h1 h2, h.2.2.1, h2⟩
/-- coins with the ship up turn over -/
def ld_ship (σ : aL) (m : Nat) : aL := (σ.1, (fun c => if c < m ∧ σ.2.1 c 4 = 1 then k_turn (σ.2.1 c) else σ.2.1 c), σ.2.2)
def ld_shipN (σ : aL) : Nat := fb_ct (fun c => decide (σ.2.1 c 4 = 1)) σ.1
theorem ld_ship_at (σ : aL) (c : Nat) : (ld_ship σ c).2.1 c = σ.2.1 c := by simp [ld_ship]
theorem ld_ship_0 (σ : aL) : ld_ship σ 0 = σ := by simp [ld_ship]
theorem ld_ship_t {σ : aL} {c : Nat} (h : σ.2.1 c 4 = 1) : ld_ship σ (c + 1) = ld_cset (ld_ship σ c) c (k_turn (σ.2.1 c)) := by
  unfold ld_ship ld_cset
  congr 2
  funext c'
  by_cases e : c' = c
  · subst e
    simp [h]
  · simp only [e, if_false, show c' < c + 1 ↔ c' < c by omega]
theorem ld_ship_f {σ : aL} {c : Nat} (h : ¬ σ.2.1 c 4 = 1) : ld_ship σ (c + 1) = ld_ship σ c := by
  unfold ld_ship
  congr 2
  funext c'
  by_cases e : c' = c
  · subst e
    simp [h]
  · simp only [show c' < c + 1 ↔ c' < c by omega]
theorem wf_ship {B : Nat} {σ : aL} (h : wfL B σ) (hB : B + 2 < 1000000) (m : Nat) : wfL (B + 2) (ld_ship σ m) := by
  refine ⟨h.1, fun c hc => ?_, h.2.2.1, hB⟩
  have h9 := h.2.1 c hc
  show wfK (B + 2) (if c < m ∧ σ.2.1 c 4 = 1 then _ else _)
  split
  · exact wf_turn h9 hB
  · exact h9.up (by omega) hB
def ld_day (σ : aL) (d : Nat) : aL := (σ.1, σ.2.1, σ.2.2.1, d, σ.2.2.2.2)
def ld_z (σ : aL) (z : Int32) : aL := (σ.1, σ.2.1, σ.2.2.1, σ.2.2.2.1, z)
/-- a day goes -/
def ld_d1 (σ : aL) : aL := if σ.2.2.2.1 % 7 = 0 then ld_day (ld_ship σ σ.1) (σ.2.2.2.1 + 1) else ld_day σ (σ.2.2.2.1 + 1)
def ld_d1n (σ : aL) : Nat := if σ.2.2.2.1 % 7 = 0 then ld_shipN σ else 0
def ld_days (σ : aL) : Nat → aL
  | 0 => σ
  | i + 1 => ld_d1 (ld_days σ i)
def ld_daysN (σ : aL) : Nat → Nat
  | 0 => 0
  | i + 1 => ld_daysN σ i + ld_d1n (ld_days σ i)
theorem ld_days_n (σ : aL) : ∀ i, (ld_days σ i).1 = σ.1
  | 0 => rfl
  | i + 1 => by
    show (ld_d1 (ld_days σ i)).1 = σ.1
    unfold ld_d1
    split <;> exact ld_days_n σ i
theorem ld_days_d (σ : aL) : ∀ i, (ld_days σ i).2.2.2.1 = σ.2.2.2.1 + i
  | 0 => rfl
  | i + 1 => by
    show (ld_d1 (ld_days σ i)).2.2.2.1 = σ.2.2.2.1 + (i + 1)
    have h := ld_days_d σ i
    unfold ld_d1
    split <;> (show (ld_days σ i).2.2.2.1 + 1 = _; omega)
theorem wf_d1 {B : Nat} {σ : aL} (h : wfL B σ) (hB : B + 2 < 1000000) (hd : σ.2.2.2.1 + 1 ≤ 999) : wfL (B + 2) (ld_d1 σ) := by
  unfold ld_d1
  split
  · exact ⟨(wf_ship h hB σ.1).1, (wf_ship h hB σ.1).2.1, hd, hB⟩
  · exact ⟨h.1, fun c hc => (h.2.1 c hc).up (by omega) hB, hd, hB⟩
theorem wf_days {B : Nat} {σ : aL} (h : wfL B σ) : ∀ i, B + 2 * i < 1000000 → σ.2.2.2.1 + i ≤ 999 → wfL (B + 2 * i) (ld_days σ i)
  | 0, _, _ => h
  | i + 1, h1, h2 => wf_d1 (wf_days h i (by omega) (by omega)) (by omega) (by rw [ld_days_d]; omega)
def zd (z : Int32) : Int32 := z * nI 1103515245 + nI 12345
def zn (z : Int32) : Nat := (zd z).toBitVec.toNat / 256
theorem zn_lt (z : Int32) : zn z < 16777216 := by
  have h := (zd z).toBitVec.isLt
  unfold zn
  omega
theorem z_ush8 (x : Int32) : (x.toUInt32 >>> ((nI 8).toUInt32 &&& Int32.toUInt32 31)).toInt32 = nI (x.toBitVec.toNat / 256) := by
  have h := pk_ushr x (nI 8) 8 (by decide)
  have h2 := x.toBitVec.isLt
  apply Int32.toBitVec_inj.1
  apply BitVec.eq_of_toNat_eq
  rw [h, pk_tn (by omega)]
theorem z_b1 {p : Prop} [Decidable p] (h : p) : some (Value.int (nI 1)) = some (.int (b2 p)) := by rw [b2_t h]; rfl
theorem z_b0 {p : Prop} [Decidable p] (h : ¬ p) : some (Value.int (nI 0)) = some (.int (b2 p)) := by rw [b2_f h]; rfl
