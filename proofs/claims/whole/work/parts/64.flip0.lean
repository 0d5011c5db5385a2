/-! FLIPS: the fewest coins to lie the other way, pure -/
def alln (p : Nat → Bool) (n : Nat) : Bool := decide (fb_ct p n = n)
theorem alln_iff {p : Nat → Bool} {n : Nat} : alln p n = true ↔ ∀ k, k < n → p k = true := by
  unfold alln
  rw [decide_eq_true_iff]
  exact fb_ct_all
def flo (σ : aL) (s z : Nat) (ns : Nat → Int32) (t : Nat) : Bool := alln (fun i => decide (inR (ns i) 1000) && rcd (ld_flip σ t) s (tn (ns i))) z
def flr (t : Nat) : Nat := pcnt t * 1024 + t
theorem flr_lt {b c : Nat} (h : b < c) (hc : c < 1024) : flr c < flr b ↔ pcnt c < pcnt b := by
  unfold flr
  omega
theorem flr_max {b : Nat} (h : b < 1024) : flr b < 11264 := by
  have := pcnt_le b
  unfold flr
  omega
theorem flr_mod {b : Nat} (h : b < 1024) : flr b % 1024 = b := by
  unfold flr
  omega
def ld_flp (σ : aL) (s z : Nat) (ns : Nat → Int32) : Option Nat := fo (bst flr (fun t => flo σ s z ns t = true)) none s (s + 1)
def op_flip (S : aS) (x y : Int32) : Int32 × aS := if inR x 3 then (if inR y 999 then (match ld_flp S.1 (ld_in S.1 (tn x)) 1 (fun _ => y) with
  | none => fnd S 3
  | some b => (nI b, S)) else fnd S 0) else fnd S 0
def op_strike (S : aS) (x y : Int32) : Int32 × aS := if inR x 3 then (if S.2.2.2.2.2.1 (tn x) = 0 then fnd S 5 else if inR y 3 then (match ld_flp S.1 (ld_in S.1 (tn y)) (S.2.2.2.2.2.2.1 (tn x)) (S.2.2.2.2.2.2.2 (tn x)) with
  | none => fnd S 3
  | some b => (nI b, S)) else fnd S 0) else fnd S 0
theorem fo_bst_none {r : Nat → Nat} {P : Nat → Prop} [DecidablePred P] {s : Nat} : ∀ m, fo (bst r P) none s m = none → ∀ t, t < m → isSub s t = true → ¬ P t
  | 0, _, t, ht, _ => absurd ht (Nat.not_lt_zero _)
  | m + 1, h, t, ht, hs => by
    change (if isSub s m = true then bst r P (fo (bst r P) none s m) m else fo (bst r P) none s m) = none at h
    by_cases hb : isSub s m = true
    · rw [if_pos hb] at h
      by_cases hp : P m
      · exfalso
        unfold bst at h
        rw [if_pos hp] at h
        revert h
        cases (fo (fun a t => if P t then (match a with | none => some t | some b => if r t < r b then some t else some b) else a) none s m) with
        | none => intro h; cases h
        | some y =>
          intro h
          change (if r m < r y then some m else some y) = none at h
          by_cases hr : r m < r y
          · rw [if_pos hr] at h; cases h
          · rw [if_neg hr] at h; cases h
      · have h2 : fo (bst r P) none s m = none := by
          unfold bst at h
          rw [if_neg hp] at h
          exact h
        by_cases e : t = m
        · subst e; exact hp
        · exact fo_bst_none m h2 t (by omega) hs
    · rw [if_neg hb] at h
      by_cases e : t = m
      · subst e; exact absurd hs hb
      · exact fo_bst_none m h t (by omega) hs
theorem fo_bst_min {r : Nat → Nat} {P : Nat → Prop} [DecidablePred P] {s : Nat} : ∀ m b, fo (bst r P) none s m = some b → ∀ t, t < m → isSub s t = true → P t → r b ≤ r t
  | 0, b, h, t, ht, _, _ => absurd ht (Nat.not_lt_zero _)
  | m + 1, b, h, t, ht, hs, hpt => by
    change (if isSub s m = true then bst r P (fo (bst r P) none s m) m else fo (bst r P) none s m) = some b at h
    by_cases hb : isSub s m = true
    · rw [if_pos hb] at h
      cases eo : fo (bst r P) none s m with
      | none =>
        rw [eo] at h
        change (if P m then some m else none) = some b at h
        by_cases hp : P m
        · rw [if_pos hp] at h
          cases h
          by_cases e : t = m
          · rw [e]; exact Nat.le_refl _
          · exact absurd hpt (fo_bst_none m eo t (by omega) hs)
        · rw [if_neg hp] at h; cases h
      | some y =>
        rw [eo] at h
        change (if P m then (if r m < r y then some m else some y) else some y) = some b at h
        by_cases hp : P m
        · rw [if_pos hp] at h
          by_cases hr : r m < r y
          · rw [if_pos hr] at h
            cases h
            by_cases e : t = m
            · rw [e]; exact Nat.le_refl _
            · have := fo_bst_min m y eo t (by omega) hs hpt
              omega
          · rw [if_neg hr] at h
            cases h
            by_cases e : t = m
            · rw [e]; omega
            · exact fo_bst_min m _ eo t (by omega) hs hpt
        · rw [if_neg hp] at h
          cases h
          by_cases e : t = m
          · rw [e] at hpt; exact absurd hpt hp
          · exact fo_bst_min m _ eo t (by omega) hs hpt
    · rw [if_neg hb] at h
      by_cases e : t = m
      · rw [e] at hs; exact absurd hs hb
      · exact fo_bst_min m b h t (by omega) hs hpt
/-- the search of the class -/
def mn (a nw ot : Nat → Nat) (ok : (Nat → Bool) → Bool) : Nat → Nat → (Nat → Bool) → Nat
  | 0, _, P => if ok P = true then 0 else 11264
  | m + 1, d, P => min (mn a nw ot ok m (d + 1) (spr P (nw (a d)))) (mn a nw ot ok m (d + 1) (spr P (ot (a d))) + (1024 + 2 ^ a d))
theorem mn_le {a nw ot : Nat → Nat} {ok : (Nat → Bool) → Bool} : ∀ m d P, mn a nw ot ok m d P ≤ 11264
  | 0, _, P => by
    show (if ok P = true then 0 else 11264) ≤ 11264
    split <;> omega
  | m + 1, d, P => Nat.le_trans (Nat.min_le_left _ _) (mn_le m (d + 1) _)
def rwf (a nw ot : Nat → Nat) (t : Nat) : Nat → Nat → (Nat → Bool) → (Nat → Bool)
  | 0, _, P => P
  | m + 1, d, P => rwf a nw ot t m (d + 1) (spr P (if t.testBit (a d) = true then ot (a d) else nw (a d)))
def rkf (a : Nat → Nat) (t : Nat) : Nat → Nat → Nat
  | 0, _ => 0
  | m + 1, d => (if t.testBit (a d) = true then 1024 + 2 ^ a d else 0) + rkf a t m (d + 1)
theorem rwf_cong {a nw ot : Nat → Nat} {t t' : Nat} : ∀ m d P, (∀ j, d ≤ j → j < d + m → t.testBit (a j) = t'.testBit (a j)) → rwf a nw ot t m d P = rwf a nw ot t' m d P
  | 0, _, _, _ => rfl
  | m + 1, d, P, h => by
    show rwf a nw ot t m (d + 1) (spr P (if t.testBit (a d) = true then ot (a d) else nw (a d))) = rwf a nw ot t' m (d + 1) (spr P (if t'.testBit (a d) = true then ot (a d) else nw (a d)))
    rw [h d (Nat.le_refl _) (by omega)]
    exact rwf_cong m (d + 1) _ (fun j h1 h2 => h j (by omega) (by omega))
theorem rkf_cong {a : Nat → Nat} {t t' : Nat} : ∀ m d, (∀ j, d ≤ j → j < d + m → t.testBit (a j) = t'.testBit (a j)) → rkf a t m d = rkf a t' m d
  | 0, _, _ => rfl
  | m + 1, d, h => by
    show (if t.testBit (a d) = true then 1024 + 2 ^ a d else 0) + rkf a t m (d + 1) = (if t'.testBit (a d) = true then 1024 + 2 ^ a d else 0) + rkf a t' m (d + 1)
    rw [h d (Nat.le_refl _) (by omega), rkf_cong m (d + 1) (fun j h1 h2 => h j (by omega) (by omega))]
theorem mn_low {a nw ot : Nat → Nat} {ok : (Nat → Bool) → Bool} {t : Nat} : ∀ m d P, ok (rwf a nw ot t m d P) = true → mn a nw ot ok m d P ≤ rkf a t m d
  | 0, d, P, h => by
    change ok P = true at h
    show (if ok P = true then 0 else 11264) ≤ 0
    rw [if_pos h]
    exact Nat.le_refl _
  | m + 1, d, P, h => by
    change ok (rwf a nw ot t m (d + 1) (spr P (if t.testBit (a d) = true then ot (a d) else nw (a d)))) = true at h
    show min (mn a nw ot ok m (d + 1) (spr P (nw (a d)))) (mn a nw ot ok m (d + 1) (spr P (ot (a d))) + (1024 + 2 ^ a d)) ≤ (if t.testBit (a d) = true then 1024 + 2 ^ a d else 0) + rkf a t m (d + 1)
    by_cases hb : t.testBit (a d) = true
    · rw [if_pos hb] at h ⊢
      have := mn_low m (d + 1) _ h
      exact Nat.le_trans (Nat.min_le_right _ _) (by omega)
    · rw [if_neg hb] at h ⊢
      have := mn_low m (d + 1) _ h
      exact Nat.le_trans (Nat.min_le_left _ _) (by omega)
theorem mn_ex {a nw ot : Nat → Nat} {ok : (Nat → Bool) → Bool} : ∀ m d P, (∀ i j, d ≤ i → i < j → j < d + m → a i ≠ a j) → mn a nw ot ok m d P = 11264 ∨ ∃ t, (∀ i, t.testBit i = true → ∃ j, d ≤ j ∧ j < d + m ∧ a j = i) ∧ ok (rwf a nw ot t m d P) = true ∧ mn a nw ot ok m d P = rkf a t m d
  | 0, d, P, _ => by
    by_cases h : ok P = true
    · exact Or.inr ⟨0, fun i hi => (by rw [Nat.zero_testBit] at hi; cases hi), h, if_pos h⟩
    · exact Or.inl (if_neg h)
  | m + 1, d, P, hinj => by
    have hj2 : ∀ i j, d + 1 ≤ i → i < j → j < d + 1 + m → a i ≠ a j := fun i j h1 h2 h3 => hinj i j (by omega) h2 (by omega)
    have i1 := mn_ex (ok := ok) (nw := nw) (ot := ot) m (d + 1) (spr P (nw (a d))) hj2
    have i2 := mn_ex (ok := ok) (nw := nw) (ot := ot) m (d + 1) (spr P (ot (a d))) hj2
    have l1 := mn_le (a := a) (nw := nw) (ot := ot) (ok := ok) m (d + 1) (spr P (nw (a d)))
    have e : mn a nw ot ok (m + 1) d P = min (mn a nw ot ok m (d + 1) (spr P (nw (a d)))) (mn a nw ot ok m (d + 1) (spr P (ot (a d))) + (1024 + 2 ^ a d)) := rfl
    by_cases hc : mn a nw ot ok m (d + 1) (spr P (nw (a d))) ≤ mn a nw ot ok m (d + 1) (spr P (ot (a d))) + (1024 + 2 ^ a d)
    · rw [e, Nat.min_eq_left hc]
      rcases i1 with h | ⟨t, h1, h2, h3⟩
      · exact Or.inl h
      · have hd : ¬ t.testBit (a d) = true := fun z => by
          obtain ⟨j, q1, q2, q3⟩ := h1 _ z
          exact hinj d j (Nat.le_refl _) (by omega) (by omega) q3.symm
        refine Or.inr ⟨t, fun i hi => ?_, ?_, ?_⟩
        · obtain ⟨j, q1, q2, q3⟩ := h1 i hi
          exact ⟨j, by omega, by omega, q3⟩
        · show ok (rwf a nw ot t m (d + 1) (spr P (if t.testBit (a d) = true then ot (a d) else nw (a d)))) = true
          rw [if_neg hd]
          exact h2
        · show _ = (if t.testBit (a d) = true then 1024 + 2 ^ a d else 0) + rkf a t m (d + 1)
          rw [if_neg hd, Nat.zero_add]
          exact h3
    · rw [e, Nat.min_eq_right (by omega)]
      rcases i2 with h | ⟨t, h1, h2, h3⟩
      · have := Nat.two_pow_pos (a d)
        omega
      · have hb : ∀ i, (t ||| 2 ^ a d).testBit i = (t.testBit i || decide (a d = i)) := fun i => by rw [Nat.testBit_or, Nat.testBit_two_pow]
        have hd : (t ||| 2 ^ a d).testBit (a d) = true := by rw [hb, decide_eq_true rfl, Bool.or_true]
        have hc2 : ∀ j, d + 1 ≤ j → j < d + 1 + m → (t ||| 2 ^ a d).testBit (a j) = t.testBit (a j) := fun j q1 q2 => by
          rw [hb, decide_eq_false (hinj d j (Nat.le_refl _) (by omega) (by omega)), Bool.or_false]
        refine Or.inr ⟨t ||| 2 ^ a d, fun i hi => ?_, ?_, ?_⟩
        · rw [hb, Bool.or_eq_true, decide_eq_true_iff] at hi
          rcases hi with hi | hi
          · obtain ⟨j, q1, q2, q3⟩ := h1 i hi
            exact ⟨j, by omega, by omega, q3⟩
          · exact ⟨d, Nat.le_refl _, by omega, hi⟩
        · show ok (rwf a nw ot (t ||| 2 ^ a d) m (d + 1) (spr P (if (t ||| 2 ^ a d).testBit (a d) = true then ot (a d) else nw (a d)))) = true
          rw [if_pos hd, rwf_cong m (d + 1) _ hc2]
          exact h2
        · show _ = (if (t ||| 2 ^ a d).testBit (a d) = true then 1024 + 2 ^ a d else 0) + rkf a (t ||| 2 ^ a d) m (d + 1)
          rw [if_pos hd, rkf_cong m (d + 1) hc2, ← h3]
          omega
/-- the coins of a set in their order -/
def bct (s c : Nat) : Nat := fb_ct (fun i => s.testBit i) c
def kth (s k : Nat) : Nat := fa_first (fun c => s.testBit c && decide (bct s c = k)) 10
theorem bct_t {s c : Nat} (h : s.testBit c = true) : bct s (c + 1) = bct s c + 1 := by
  unfold bct
  rw [fb_ct_succ, if_pos h]
theorem bct_f {s c : Nat} (h : ¬ s.testBit c = true) : bct s (c + 1) = bct s c := by
  unfold bct
  rw [fb_ct_succ, if_neg h]
  rfl
theorem kth_of {s c : Nat} (hc : c < 10) (h : s.testBit c = true) : kth s (bct s c) = c := by
  refine fst_is hc (fun i hi => ?_) (by rw [h, decide_eq_true rfl]; rfl)
  cases hb : s.testBit i with
  | false => rfl
  | true =>
    rw [Bool.true_and]
    refine decide_eq_false (fun e => ?_)
    have := fb_ct_kth_one (p := fun i => s.testBit i) hb h e
    omega
theorem kth_spec {s k n : Nat} (hn : n ≤ 10) (h : k < bct s n) : s.testBit (kth s k) = true ∧ kth s k < n ∧ bct s (kth s k) = k := by
  obtain ⟨i, h1, h2, h3⟩ := fb_ct_kth (p := fun i => s.testBit i) h
  have e : kth s k = i := by rw [← h3]; exact kth_of (by omega) h2
  rw [e]
  exact ⟨h2, h1, h3⟩
theorem kth_inj {s n : Nat} (hn : n ≤ 10) : ∀ i j, 0 ≤ i → i < j → j < 0 + bct s n → kth s i ≠ kth s j := fun i j _ h1 h2 e => by
  have e1 := (kth_spec (s := s) (k := i) hn (by omega)).2.2
  have e2 := (kth_spec (s := s) (k := j) hn (by omega)).2.2
  rw [e] at e1
  omega
theorem bct_mono {s c n : Nat} (h : c ≤ n) : bct s c ≤ bct s n := fb_ct_mono _ h
theorem rwf_rch {nw ot : Nat → Nat} {s t n : Nat} (hn : n ≤ 10) : ∀ e c, c + e = n → rwf (kth s) nw ot t (bct s n - bct s c) (bct s c) (rch (fun c => if t.testBit c = true then ot c else nw c) s c) = rch (fun c => if t.testBit c = true then ot c else nw c) s n
  | 0, c, h => by
    have : c = n := by omega
    subst this
    rw [Nat.sub_self]
    rfl
  | e + 1, c, h => by
    have ih := rwf_rch (nw := nw) (ot := ot) (s := s) (t := t) hn e (c + 1) (by omega)
    by_cases hb : s.testBit c = true
    · have hm := bct_mono (s := s) (c := c + 1) (n := n) (by omega)
      rw [bct_t hb] at ih hm
      rw [rch_t hb] at ih
      rw [show bct s n - bct s c = (bct s n - (bct s c + 1)) + 1 by omega]
      show rwf (kth s) nw ot t (bct s n - (bct s c + 1)) (bct s c + 1) (spr _ (if t.testBit (kth s (bct s c)) = true then ot (kth s (bct s c)) else nw (kth s (bct s c)))) = _
      rw [kth_of (by omega) hb]
      exact ih
    · rw [bct_f hb, rch_f hb] at ih
      exact ih
def rks (t n : Nat) : Nat := fb_sm (fun i => if t.testBit i then 1024 + 2 ^ i else 0) n
theorem rkf_rks {s t n : Nat} (hn : n ≤ 10) (ht : isSub s t = true) : ∀ e c, c + e = n → rkf (kth s) t (bct s n - bct s c) (bct s c) + rks t c = rks t n
  | 0, c, h => by
    have : c = n := by omega
    subst this
    rw [Nat.sub_self]
    exact Nat.zero_add _
  | e + 1, c, h => by
    have ih := rkf_rks (s := s) (t := t) hn ht e (c + 1) (by omega)
    have es : rks t (c + 1) = rks t c + (if t.testBit c then 1024 + 2 ^ c else 0) := rfl
    by_cases hb : s.testBit c = true
    · have hm := bct_mono (s := s) (c := c + 1) (n := n) (by omega)
      rw [bct_t hb] at ih hm
      rw [show bct s n - bct s c = (bct s n - (bct s c + 1)) + 1 by omega]
      show (if t.testBit (kth s (bct s c)) = true then 1024 + 2 ^ kth s (bct s c) else 0) + rkf (kth s) t (bct s n - (bct s c + 1)) (bct s c + 1) + rks t c = _
      rw [kth_of (by omega) hb]
      omega
    · have hb2 : ¬ t.testBit c = true := fun z => hb (isSub_iff.mp ht c z)
      rw [if_neg hb2] at es
      rw [bct_f hb] at ih
      omega
theorem rks_is (t : Nat) : ∀ n, rks t n = 1024 * bct t n + t % 2 ^ n
  | 0 => by
    show 0 = 1024 * 0 + t % 1
    omega
  | n + 1 => by
    have ih := rks_is t n
    have es : rks t (n + 1) = rks t n + (if t.testBit n then 1024 + 2 ^ n else 0) := rfl
    rw [es, ih, Nat.mod_pow_succ]
    have hm := Nat.mod_two_eq_zero_or_one (t / 2 ^ n)
    have ht : t.testBit n = decide (t / 2 ^ n % 2 = 1) := Nat.testBit_eq_decide_div_mod_eq
    by_cases hb : t.testBit n = true
    · have h1 : t / 2 ^ n % 2 = 1 := of_decide_eq_true (ht.symm.trans hb)
      rw [if_pos hb, bct_t hb, h1]
      omega
    · have h0 : t / 2 ^ n % 2 = 0 := by
        rcases hm with h | h
        · exact h
        · exact absurd (ht.trans (decide_eq_true h)) hb
      rw [if_neg hb, bct_f hb, h0]
      omega
theorem bct_top {t n : Nat} (hn : n ≤ 10) (ht : t < 2 ^ n) : bct t n = pcnt t := by
  unfold bct pcnt
  rw [show (10 : Nat) = n + (10 - n) by omega, fb_ct_split]
  have e : fb_ct (fun k => t.testBit (n + k)) (10 - n) = 0 := fb_ct_zero.mpr (fun k _ => Nat.testBit_lt_two_pow (Nat.lt_of_lt_of_le ht (Nat.pow_le_pow_right (by decide) (by omega))))
  rw [e]
  rfl
theorem rkf_flr {s t n : Nat} (hn : n ≤ 10) (hs : s < 2 ^ n) (ht : isSub s t = true) : rkf (kth s) t (bct s n) 0 = flr t := by
  have h := rkf_rks (s := s) (t := t) hn ht n 0 (by omega)
  have e0 : bct s 0 = 0 := rfl
  have e1 : rks t 0 = 0 := rfl
  have ht2 : t < 2 ^ n := Nat.lt_of_le_of_lt (isSub_le ht) hs
  rw [e0, e1, Nat.sub_zero, rks_is, bct_top hn ht2, Nat.mod_eq_of_lt ht2] at h
  unfold flr
  omega
theorem rch_cong {f g : Nat → Nat} {s : Nat} : ∀ n, (∀ c, c < n → f c = g c) → rch f s n = rch g s n
  | 0, _ => rfl
  | n + 1, h => by
    by_cases hb : s.testBit n = true
    · rw [rch_t hb, rch_t hb, rch_cong n (fun c hc => h c (by omega)), h n (by omega)]
    · rw [rch_f hb, rch_f hb, rch_cong n (fun c hc => h c (by omega))]
theorem rcd_flip {σ : aL} {s t : Nat} : rcd (ld_flip σ t) s = rch (fun c => if t.testBit c = true then k_oth (σ.2.1 c) else k_now (σ.2.1 c)) s σ.1 := by
  unfold rcd
  refine rch_cong σ.1 (fun c hc => ?_)
  show k_now (if c < σ.1 ∧ t.testBit c = true then k_flip (σ.2.1 c) else σ.2.1 c) = _
  by_cases hb : t.testBit c = true
  · rw [if_pos ⟨hc, hb⟩, if_pos hb, k_now_flip]
  · rw [if_neg (fun z => hb z.2), if_neg hb]
/-- what the class finds is what is asked for -/
theorem fl_end {B : Nat} {σ : aL} (hW : wfL B σ) {s z : Nat} {ns : Nat → Int32} {ok : (Nat → Bool) → Bool} (hs : s < 2 ^ σ.1) (hok : ∀ t, ok (rcd (ld_flip σ t) s) = flo σ s z ns t) : (mn (kth s) (fun c => k_now (σ.2.1 c)) (fun c => k_oth (σ.2.1 c)) ok (bct s σ.1) 0 (fun k => decide (k = 0)) = 11264 ∧ ld_flp σ s z ns = none) ∨ ∃ b, b < 1024 ∧ ld_flp σ s z ns = some b ∧ mn (kth s) (fun c => k_now (σ.2.1 c)) (fun c => k_oth (σ.2.1 c)) ok (bct s σ.1) 0 (fun k => decide (k = 0)) = flr b := by
  have n10 := hW.1
  have hr : ∀ t, rwf (kth s) (fun c => k_now (σ.2.1 c)) (fun c => k_oth (σ.2.1 c)) t (bct s σ.1) 0 (fun k => decide (k = 0)) = rcd (ld_flip σ t) s := fun t => by
    rw [rcd_flip]
    exact rwf_rch (nw := fun c => k_now (σ.2.1 c)) (ot := fun c => k_oth (σ.2.1 c)) (s := s) (t := t) n10 σ.1 0 (by omega)
  have h1 := mn_ex (a := kth s) (nw := fun c => k_now (σ.2.1 c)) (ot := fun c => k_oth (σ.2.1 c)) (ok := ok) (bct s σ.1) 0 (fun k => decide (k = 0)) (kth_inj n10)
  cases eo : ld_flp σ s z ns with
  | none =>
    refine Or.inl ⟨?_, rfl⟩
    rcases h1 with h | ⟨t, q1, q2, q3⟩
    · exact h
    · exfalso
      have hsub : isSub s t = true := isSub_iff.mpr (fun i hi => by
        obtain ⟨j, r1, r2, r3⟩ := q1 i hi
        rw [← r3]
        exact (kth_spec n10 (by omega)).1)
      rw [hr, hok] at q2
      exact fo_bst_none _ eo t (by have := isSub_le hsub; omega) hsub q2
  | some b =>
    have hb := fo_bst _ _ eo
    have hbl : b < 1024 := Nat.lt_of_le_of_lt (isSub_le hb.1) (Nat.lt_of_lt_of_le hs (z_p10 n10))
    have hlo := mn_low (a := kth s) (nw := fun c => k_now (σ.2.1 c)) (ot := fun c => k_oth (σ.2.1 c)) (ok := ok) (t := b) (bct s σ.1) 0 (fun k => decide (k = 0)) (by rw [hr, hok]; exact hb.2)
    rw [rkf_flr n10 hs hb.1] at hlo
    have hmx := flr_max hbl
    refine Or.inr ⟨b, hbl, rfl, ?_⟩
    rcases h1 with h | ⟨t, q1, q2, q3⟩
    · omega
    · have hsub : isSub s t = true := isSub_iff.mpr (fun i hi => by
        obtain ⟨j, r1, r2, r3⟩ := q1 i hi
        rw [← r3]
        exact (kth_spec n10 (by omega)).1)
      rw [hr, hok] at q2
      have hmin := fo_bst_min _ b eo t (by have := isSub_le hsub; omega) hsub q2
      rw [rkf_flr n10 hs hsub] at q3
      omega
theorem ld_in_flip {σ : aL} {t p : Nat} : ld_in (ld_flip σ t) p = ld_in σ p := by
  apply Nat.eq_of_testBit_eq
  intro i
  by_cases h : i < σ.1
  · rw [ld_in_test h, ld_in_test (σ := ld_flip σ t) h]
    show decide ((if i < σ.1 ∧ t.testBit i = true then k_flip (σ.2.1 i) else σ.2.1 i) 1 = p) = _
    split
    · rfl
    · rfl
  · unfold ld_in
    rw [bitsTo_hi _ (show (ld_flip σ t).1 ≤ i by show σ.1 ≤ i; omega), bitsTo_hi _ (by omega)]
theorem flo_1 {σ : aL} {s v t : Nat} (hv : v ≤ 999) : flo σ s 1 (fun _ => nI v) t = rcd (ld_flip σ t) s v := by
  have h1 : inR (nI v) 1000 := (inR_iff (by decide)).mpr ⟨v, by omega, rfl⟩
  rw [Bool.eq_iff_iff]
  unfold flo
  rw [alln_iff]
  constructor
  · intro h
    have h2 := h 0 (by decide)
    rw [Bool.and_eq_true, tn_nI (by omega)] at h2
    exact h2.2
  · intro h k _
    rw [decide_eq_true h1, Bool.true_and, tn_nI (by omega)]
    exact h
