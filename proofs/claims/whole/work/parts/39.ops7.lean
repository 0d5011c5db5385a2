/-! THE PUBLIC METHODS (7): coins laid otherwise -/
def k_flip (k : Nat → Nat) : Nat → Nat := k_set k 4 (1 - k 4)
def ld_flipN (σ : aL) (t m : Nat) : aL := (σ.1, (fun c => if c < m ∧ t.testBit c = true then k_flip (σ.2.1 c) else σ.2.1 c), σ.2.2)
def ld_flip (σ : aL) (t : Nat) : aL := ld_flipN σ t σ.1
theorem ld_flipN_0 (σ : aL) (t : Nat) : ld_flipN σ t 0 = σ := by simp [ld_flipN]
theorem ld_flipN_at (σ : aL) (t c : Nat) : (ld_flipN σ t c).2.1 c = σ.2.1 c := by simp [ld_flipN]
theorem ld_flipN_t {σ : aL} {t c : Nat} (h : t.testBit c = true) : ld_flipN σ t (c + 1) = ld_cset (ld_flipN σ t c) c (k_flip (σ.2.1 c)) := by
  unfold ld_flipN ld_cset
  congr 2
  funext c'
  by_cases e : c' = c
  · subst e; simp [h]
  · by_cases e2 : c' < c
    · simp [e, e2, show c' < c + 1 by omega]
    · simp [e, e2, show ¬ c' < c + 1 by omega]
theorem ld_flipN_f {σ : aL} {t c : Nat} (h : ¬ t.testBit c = true) : ld_flipN σ t (c + 1) = ld_flipN σ t c := by
  unfold ld_flipN
  congr 2
  funext c'
  by_cases e : c' = c
  · subst e; simp [h]
  · by_cases e2 : c' < c
    · simp [e2, show c' < c + 1 by omega]
    · simp [e2, show ¬ c' < c + 1 by omega]
theorem wf_flipN {B : Nat} {σ : aL} (h : wfL B σ) (t m : Nat) : wfL B (ld_flipN σ t m) := by
  refine ⟨h.1, fun c hc => ?_, h.2.2.1, h.2.2.2⟩
  have h9 := h.2.1 c hc
  show wfK B (if c < m ∧ t.testBit c = true then _ else _)
  split
  · refine ⟨h9.1, h9.2.1, h9.2.2.1, h9.2.2.2.1, ?_, h9.2.2.2.2.2.1, h9.2.2.2.2.2.2⟩
    show 1 - σ.2.1 c 4 < 2
    omega
  · exact h9
theorem absR.unflip {I : Nat → Nat → Int32} {B t : Nat} {σ : aL} (hW : wfL B σ) (h : absR I 77 (ld_flip (ld_flip σ t) t)) : absR I 77 σ := by
  refine h.congr rfl (fun c hc f hf => ?_) rfl
  have hc' : c < σ.1 := hc
  have w4 := (hW.2.1 c hc').2.2.2.2.1
  show σ.2.1 c f = (if c < σ.1 ∧ t.testBit c = true then k_flip (if c < σ.1 ∧ t.testBit c = true then k_flip (σ.2.1 c) else σ.2.1 c) else (if c < σ.1 ∧ t.testBit c = true then k_flip (σ.2.1 c) else σ.2.1 c)) f
  by_cases e : c < σ.1 ∧ t.testBit c = true
  · rw [if_pos e, if_pos e]
    unfold k_flip k_set
    by_cases e4 : f = 4
    · subst e4; simp; omega
    · simp [e4]
  · rw [if_neg e, if_neg e]
theorem k_now_flip (k : Nat → Nat) : k_now (k_flip k) = k_oth k := by
  simp [k_now, k_oth, k_flip, k_set, k_wIf, k_face]
theorem z_xor1 {l b : Nat} (hl : l < 2) (hb : b < 2) : nI l ^^^ nI b = nI (if b = 1 then 1 - l else l) := by
  rcases (show l = 0 ∨ l = 1 by omega) with rfl | rfl <;> rcases (show b = 0 ∨ b = 1 by omega) with rfl | rfl <;> decide
def eW (σ : aL) : Nat → Int32 := fun c => nI (k_oth (σ.2.1 c)) - nI (k_now (σ.2.1 c))
theorem tsm_flip {B : Nat} {σ : aL} (hW : wfL B σ) {s t : Nat} (ht : isSub s t = true) : ∀ n, n ≤ σ.1 → ((fb_sm (fun c => if s.testBit c then k_now ((ld_flip σ t).2.1 c) else 0) n : Nat) : Int) = (fb_sm (fun c => if s.testBit c then k_now (σ.2.1 c) else 0) n : Nat) + (tsm (eW σ) t n).toInt ∧ -(100 * (n : Int)) ≤ (tsm (eW σ) t n).toInt ∧ (tsm (eW σ) t n).toInt ≤ 100 * n
  | 0, _ => ⟨rfl, Int.le_refl _, Int.le_refl _⟩
  | n + 1, hn => by
    have ih := tsm_flip hW ht n (by omega)
    have w := hW.2.1 n (by omega)
    have n10 := hW.1
    have b1 : k_now (σ.2.1 n) ≤ 100 := k_wIf_le w _ _ _ _
    have b2 : k_oth (σ.2.1 n) ≤ 100 := k_wIf_le w _ _ _ _
    rw [fb_sm_succ, fb_sm_succ]
    have e1 : tsm (eW σ) t (n + 1) = if t.testBit n = true then tsm (eW σ) t n + eW σ n else tsm (eW σ) t n := rfl
    rw [e1]
    by_cases hb : t.testBit n = true
    · have hs := isSub_iff.mp ht n hb
      have e2 : (ld_flip σ t).2.1 n = k_flip (σ.2.1 n) := if_pos ⟨by omega, hb⟩
      have e3 : (eW σ n).toInt = (k_oth (σ.2.1 n) : Int) - k_now (σ.2.1 n) := pk_sub_toInt (by omega) (by omega)
      have e4 : (tsm (eW σ) t n + eW σ n).toInt = (tsm (eW σ) t n).toInt + (eW σ n).toInt := by
        rw [Int32.toInt_add]
        exact Int.bmod_eq_of_le (by omega) (by omega)
      simp only [hb, hs, if_true, e2, k_now_flip]
      rw [e4, e3]
      omega
    · have e2 : (ld_flip σ t).2.1 n = σ.2.1 n := if_neg (fun z => hb z.2)
      simp only [e2]
      rw [if_neg hb]
      by_cases hs : s.testBit n = true
      · simp only [hs, if_true]; omega
      · simp only [hs, if_false, Bool.false_eq_true]; omega
theorem ways_iff {B : Nat} {σ : aL} (hW : wfL B σ) {s t v : Nat} (ht : isSub s t = true) (hsp : s < 2 ^ σ.1) (hv : v < 10000) : (nI v - nI (ld_sum σ s) ≤ tsm (eW σ) t 10) ↔ v ≤ ld_sum (ld_flip σ t) s := by
  have h1 := tsm_flip hW ht σ.1 (Nat.le_refl _)
  have n10 := hW.1
  have htp : t < 2 ^ σ.1 := Nat.lt_of_le_of_lt (isSub_le ht) hsp
  have h2 := tsm_top (e := eW σ) htp (10 - σ.1)
  rw [show σ.1 + (10 - σ.1) = 10 by omega] at h2
  rw [h2, Int32.le_iff_toInt_le]
  have h3 := ld_sum_le hW s
  have e : (nI v - nI (ld_sum σ s)).toInt = (v : Int) - ld_sum σ s := pk_sub_toInt (by omega) (by omega)
  rw [e]
  have h4 : ((ld_sum (ld_flip σ t) s : Nat) : Int) = (ld_sum σ s : Nat) + (tsm (eW σ) t σ.1).toInt := h1.1
  omega
def ld_ways (σ : aL) (s v : Nat) : Nat := fo (fun n t => if v ≤ ld_sum (ld_flip σ t) s then n + 1 else n) 0 s (s + 1)
theorem ld_ways_c {σ : aL} {s v : Nat} (hs : s < 1024) : ld_ways σ s v = fc (fun n t => if v ≤ ld_sum (ld_flip σ t) s then n + 1 else n) 0 (slf s 10) (slc s 10) := (subs_all hs _ _).symm
def op_ways (S : aS) (x y : Int32) : Int32 × aS := if inR x 3 then (if inR y 9999 then (nI (ld_ways S.1 (ld_in S.1 (tn x)) (tn y)), S) else fnd S 0) else fnd S 0
theorem fc_ct_le {p : Nat → Prop} [DecidablePred p] {f : Nat → Nat} : ∀ m, fc (fun n t => if p t then n + 1 else n) 0 f m ≤ m
  | 0 => Nat.le_refl _
  | m + 1 => by
    have h := fc_ct_le (p := p) (f := f) m
    show (if p (f m) then _ else _) ≤ _
    split <;> omega
theorem fo_ct_le {p : Nat → Prop} [DecidablePred p] {s : Nat} : ∀ m, fo (fun n t => if p t then n + 1 else n) 0 s m ≤ m
  | 0 => Nat.le_refl _
  | m + 1 => by
    have h := fo_ct_le (p := p) (s := s) m
    show (if isSub s m = true then (if p m then _ else _) else _) ≤ _
    split
    · split <;> omega
    · omega
