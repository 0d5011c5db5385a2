/-! TEXTS: tokens and items, pure -/
theorem zV_gsFmt {G : mG} {E : mE} {cn : Nat × Nat} {pc pc' : Nat} {lv : List (Nat × Value)} {st : List Value} {Q : Option Value → mM → Prop} {M : mM} {idx : Nat} (hd : decode E.2.1 pc = .ok (.getstatic idx, 3)) (hp : pc + 3 = pc') (hw : Cond.fieldLink E.1 idx "jdk/internal/util/Preconditions" "SIOOBE_FORMATTER" "Ljava/util/function/BiFunction;" ∈ tG) (k0 : zV G E cn pc' lv (.null :: st) M Q) (k1 : zV G E cn pc' lv (.ref 1302 :: st) M Q) : zV G E cn pc lv st M Q := by
  subst hp
  intro p l e s m args below meth c H locs Z ls C hH hS hl h1 h2 hR
  rcases C.2.2.2.2.2.2.2.2.1.2.2.2.2.2.2.2.2.2 with hz | hz
  · exact va_gets C.1 C.2.1 hz hS.1 C.2.2.2.1 (C.2.2.2.2.2.2.1 _ hw) (fun _ h => h) hd (k0 p l e s m args below meth c H locs Z ls C hH hS hl h1 h2 hR)
  · have h9 := k1 p l e s m args below meth c H locs Z ls C hH hS hl h1 h2 hR
    rw [List.map_cons, show g_tv G (.ref 1302) = .ref (g_ad G (1000 + 302)) from rfl, g_old] at h9
    exact va_gets C.1 C.2.1 hz hS.1 C.2.2.2.1 (C.2.2.2.2.2.2.1 _ hw) (fun _ h => h) hd h9
abbrev aT : Type := Nat × Nat × Nat × Nat
def isLt (b : Nat) : Bool := decide (97 ≤ b ∧ b ≤ 122)
def isDg (b : Nat) : Bool := decide (48 ≤ b ∧ b ≤ 57)
def isSp (b : Nat) : Bool := decide (b = 32)
def scn (p : Nat → Bool) (tp : Nat → Nat) (L b : Nat) : Nat := b + fa_first (fun i => !p (tp (b + i))) (L - b)
theorem scn_end {p : Nat → Bool} {tp : Nat → Nat} {L b : Nat} (hb : b ≤ L) (h : ∀ j, j < L - b → p (tp (b + j)) = true) : scn p tp L b = b + (L - b) := by
  unfold scn
  rw [fst_end (fun j hj => by rw [h j hj]; rfl)]
theorem scn_at {p : Nat → Bool} {tp : Nat → Nat} {L b i : Nat} (hi : i < L - b) (h : ∀ j, j < i → p (tp (b + j)) = true) (hn : ¬ p (tp (b + i)) = true) : scn p tp L b = b + i := by
  unfold scn
  rw [fst_is hi (fun j hj => by rw [h j hj]; rfl) (by cases e : p (tp (b + i)) with | false => rfl | true => exact absurd e hn)]
theorem scn_le {p : Nat → Bool} {tp : Nat → Nat} {L b : Nat} (hb : b ≤ L) : scn p tp L b ≤ L := by
  have := fa_first_le (fun i => !p (tp (b + i))) (L - b)
  unfold scn
  omega
theorem scn_ge {p : Nat → Bool} {tp : Nat → Nat} {L b : Nat} : b ≤ scn p tp L b := Nat.le_add_right _ _
theorem scn_gt {p : Nat → Bool} {tp : Nat → Nat} {L b : Nat} (hb : b < L) (h : p (tp b) = true) : b < scn p tp L b := by
  have hne : fa_first (fun i => !p (tp (b + i))) (L - b) ≠ 0 := fun z => by
    have h1 := fa_first_yes (fun i => !p (tp (b + i))) (L - b) (by omega)
    rw [z] at h1
    change (!p (tp b)) = true at h1
    rw [h] at h1
    cases h1
  unfold scn
  omega
def vlu (tp : Nat → Nat) (b : Nat) : Nat → Nat
  | 0 => 0
  | n + 1 => min 1000 (vlu tp b n * 10 + tp (b + n) - 48)
theorem vlu_le (tp : Nat → Nat) (b : Nat) : ∀ n, vlu tp b n ≤ 1000
  | 0 => Nat.zero_le _
  | n + 1 => Nat.min_le_left _ _
def nxt (tp : Nat → Nat) (L b : Nat) : aT := if scn isSp tp L b < L then (if isLt (tp (scn isSp tp L b)) = true then (1, scn isSp tp L b, scn isLt tp L (scn isSp tp L b), 0) else if isDg (tp (scn isSp tp L b)) = true then (2, scn isSp tp L b, scn isDg tp L (scn isSp tp L b), vlu tp (scn isSp tp L b) (scn isDg tp L (scn isSp tp L b) - scn isSp tp L b)) else ((if tp (scn isSp tp L b) = 59 then 3 else 4), scn isSp tp L b, scn isSp tp L b + 1, 0)) else (0, scn isSp tp L b, scn isSp tp L b, 0)
def nx (tp : Nat → Nat) (L : Nat) (k : aT) : aT := nxt tp L k.2.2.1
def okT (L : Nat) (k : aT) : Prop := k.1 ≤ 4 ∧ k.2.1 ≤ k.2.2.1 ∧ k.2.2.1 ≤ L ∧ k.2.2.2 ≤ 1000
theorem nxt_all {tp : Nat → Nat} {L b : Nat} (hb : b ≤ L) : okT L (nxt tp L b) ∧ b ≤ (nxt tp L b).2.1 ∧ ((nxt tp L b).1 ≠ 0 → (nxt tp L b).2.1 < (nxt tp L b).2.2.1) := by
  have h1 := scn_le (p := isSp) (tp := tp) hb
  have h2 := scn_ge (p := isSp) (tp := tp) (L := L) (b := b)
  unfold nxt
  by_cases hl : scn isSp tp L b < L
  · rw [if_pos hl]
    by_cases hc : isLt (tp (scn isSp tp L b)) = true
    · rw [if_pos hc]
      have h3 := scn_gt hl hc
      have h4 := scn_le (p := isLt) (tp := tp) (L := L) (b := scn isSp tp L b) (by omega)
      exact ⟨⟨show 1 ≤ 4 by decide, Nat.le_of_lt h3, h4, Nat.zero_le _⟩, h2, fun _ => h3⟩
    · rw [if_neg hc]
      by_cases hd : isDg (tp (scn isSp tp L b)) = true
      · rw [if_pos hd]
        have h3 := scn_gt hl hd
        have h4 := scn_le (p := isDg) (tp := tp) (L := L) (b := scn isSp tp L b) (by omega)
        exact ⟨⟨show 2 ≤ 4 by decide, Nat.le_of_lt h3, h4, vlu_le _ _ _⟩, h2, fun _ => h3⟩
      · rw [if_neg hd]
        refine ⟨⟨?_, Nat.le_succ _, hl, Nat.zero_le _⟩, h2, fun _ => Nat.lt_succ_self _⟩
        show (if tp (scn isSp tp L b) = 59 then 3 else 4) ≤ 4
        split <;> decide
  · rw [if_neg hl]
    exact ⟨⟨Nat.zero_le _, Nat.le_refl _, h1, Nat.zero_le _⟩, h2, fun z => absurd rfl z⟩
theorem nx_ok {tp : Nat → Nat} {L : Nat} {k : aT} (h : k.2.2.1 ≤ L) : okT L (nx tp L k) := (nxt_all h).1
theorem nx_ge {tp : Nat → Nat} {L : Nat} {k : aT} (h : k.2.2.1 ≤ L) : k.2.2.1 ≤ (nx tp L k).2.2.1 := Nat.le_trans (nxt_all h).2.1 (nxt_all h).1.2.1
theorem nx_gt {tp : Nat → Nat} {L : Nat} {k : aT} (h : k.2.2.1 ≤ L) (hs : (nx tp L k).1 ≠ 0) : k.2.2.1 < (nx tp L k).2.2.1 := Nat.lt_of_le_of_lt (nxt_all h).2.1 ((nxt_all h).2.2 hs)
/-- the token is this word -/
abbrev isW (tp : Nat → Nat) (k : aT) (t : Nat) : Prop := k.1 = 1 ∧ k.2.2.1 - k.2.1 = g_len.getD t 0 ∧ ∀ i, i < g_len.getD t 0 → nI (tp (k.2.1 + i)) = (g_byt.getD t []).getD i 0
abbrev num (k : aT) (m : Nat) : Prop := k.1 = 2 ∧ k.2.2.2 ≤ m
abbrev aR : Type := Bool × aT × aL
def rShip (tp : Nat → Nat) (L : Nat) (k : aT) (σ : aL) (n : Nat) : aR := if isW tp k 10 then (true, nx tp L k, ld_cset σ n (k_set (σ.2.1 n) 4 1)) else (true, k, σ)
def rCoin (tp : Nat → Nat) (L kd : Nat) (k : aT) (σ : aL) : aR := if σ.1 < 10 then (if num (nx tp L k) 99 then (if num (nx tp L (nx tp L k)) 99 then (if isW tp (nx tp L (nx tp L (nx tp L k))) 9 then (if num (nx tp L (nx tp L (nx tp L (nx tp L k)))) 3 then rShip tp L (nx tp L (nx tp L (nx tp L (nx tp L (nx tp L k))))) (ld_cset (ld_add σ kd (nx tp L k).2.2.2 (nx tp L (nx tp L k)).2.2.2) σ.1 (k_set ((ld_add σ kd (nx tp L k).2.2.2 (nx tp L (nx tp L k)).2.2.2).2.1 σ.1) 1 (nx tp L (nx tp L (nx tp L (nx tp L k)))).2.2.2)) σ.1 else (false, nx tp L (nx tp L (nx tp L (nx tp L k))), σ)) else rShip tp L (nx tp L (nx tp L (nx tp L k))) (ld_add σ kd (nx tp L k).2.2.2 (nx tp L (nx tp L k)).2.2.2) σ.1) else (false, nx tp L (nx tp L k), σ)) else (false, nx tp L k, σ)) else (false, k, σ)
def rPay (tp : Nat → Nat) (L : Nat) (k : aT) (σ : aL) : aR := if ((nx tp L k).1 = 2 ∧ (nx tp L k).2.2.2 < σ.1) then (if isW tp (nx tp L (nx tp L k)) 8 then (if (num (nx tp L (nx tp L (nx tp L k))) 3 ∧ (nx tp L (nx tp L (nx tp L k))).2.2.2 ≠ σ.2.1 (nx tp L k).2.2.2 1) then (true, nx tp L (nx tp L (nx tp L (nx tp L k))), ld_cset σ (nx tp L k).2.2.2 (k_set (k_turn (σ.2.1 (nx tp L k).2.2.2)) 1 (nx tp L (nx tp L (nx tp L k))).2.2.2)) else (false, nx tp L (nx tp L (nx tp L k)), σ)) else (false, nx tp L (nx tp L k), σ)) else (false, nx tp L k, σ)
def kdOf (tp : Nat → Nat) (k : aT) : Nat := fa_first (fun t => decide (isW tp k t)) 7
def rItem (tp : Nat → Nat) (L : Nat) (k : aT) (σ : aL) : aR := if kdOf tp k < 7 then rCoin tp L (kdOf tp k) k σ else if isW tp k 7 then rPay tp L k σ else (false, k, σ)
theorem words_two : ∀ t, t < 7 → ∀ u, u < 7 → t ≠ u → g_len.getD t 0 = g_len.getD u 0 → ∃ i, i < g_len.getD t 0 ∧ (g_byt.getD t []).getD i 0 ≠ (g_byt.getD u []).getD i 0 := by decide +kernel
theorem isW_one {tp : Nat → Nat} {k : aT} {t u : Nat} (ht : t < 7) (hu : u < 7) (h : isW tp k t) (h' : isW tp k u) : t = u := Classical.byContradiction fun z => by
  obtain ⟨i, hi, e⟩ := words_two t ht u hu z (h.2.1.symm.trans h'.2.1)
  exact e ((h.2.2 i hi).symm.trans (h'.2.2 i (by rw [← h'.2.1, h.2.1]; exact hi)))
theorem kdOf_is {tp : Nat → Nat} {k : aT} {t : Nat} (ht : t < 7) (h : isW tp k t) : kdOf tp k = t := fst_is ht (fun i hi => decide_eq_false (fun z => by have := isW_one (by omega) ht z h; omega)) (decide_eq_true h)
theorem kdOf_no {tp : Nat → Nat} {k : aT} (h : ∀ t, t < 7 → ¬ isW tp k t) : kdOf tp k = 7 := fst_end (fun i hi => decide_eq_false (h i hi))
/-- the items one behind another: where the next begins, and the land -/
def rTx (tp : Nat → Nat) (L : Nat) (σ : aL) : Nat → Option (Nat × aL)
  | 0 => some (0, σ)
  | i + 1 => match rTx tp L σ i with
    | none => none
    | some (b, τ) => if ((rItem tp L (nxt tp L b) τ).1 = true ∧ (rItem tp L (nxt tp L b) τ).2.1.1 = 3) then some ((rItem tp L (nxt tp L b) τ).2.1.2.2.1, (rItem tp L (nxt tp L b) τ).2.2) else none
theorem rTx_y {tp : Nat → Nat} {L i b : Nat} {σ τ : aL} (h : rTx tp L σ i = some (b, τ)) (h1 : (rItem tp L (nxt tp L b) τ).1 = true) (h2 : (rItem tp L (nxt tp L b) τ).2.1.1 = 3) : rTx tp L σ (i + 1) = some ((rItem tp L (nxt tp L b) τ).2.1.2.2.1, (rItem tp L (nxt tp L b) τ).2.2) := by
  show (match rTx tp L σ i with | none => none | some (b, τ) => if ((rItem tp L (nxt tp L b) τ).1 = true ∧ (rItem tp L (nxt tp L b) τ).2.1.1 = 3) then some ((rItem tp L (nxt tp L b) τ).2.1.2.2.1, (rItem tp L (nxt tp L b) τ).2.2) else none) = _
  rw [h]
  exact if_pos ⟨h1, h2⟩
theorem rTx_n {tp : Nat → Nat} {L i b : Nat} {σ τ : aL} (h : rTx tp L σ i = some (b, τ)) (h1 : ¬ ((rItem tp L (nxt tp L b) τ).1 = true ∧ (rItem tp L (nxt tp L b) τ).2.1.1 = 3)) : rTx tp L σ (i + 1) = none := by
  show (match rTx tp L σ i with | none => none | some (b, τ) => if ((rItem tp L (nxt tp L b) τ).1 = true ∧ (rItem tp L (nxt tp L b) τ).2.1.1 = 3) then some ((rItem tp L (nxt tp L b) τ).2.1.2.2.1, (rItem tp L (nxt tp L b) τ).2.2) else none) = _
  rw [h]
  exact if_neg h1
def rTn (tp : Nat → Nat) (L : Nat) (σ : aL) : Nat := fa_first (fun i => (rTx tp L σ (i + 1)).isNone) 120
theorem rTn_at {tp : Nat → Nat} {L c : Nat} {σ : aL} (hc : c < 120) (h : ∀ i, i < c → (rTx tp L σ (i + 1)).isNone = false) (hy : rTx tp L σ (c + 1) = none) : rTn tp L σ = c := fst_is hc h (by rw [hy]; rfl)
/-- the answer of a text, and the land behind it -/
def rAns (tp : Nat → Nat) (L : Nat) (σ : aL) : Int32 × Option aL := match rTx tp L σ (rTn tp L σ) with
  | none => (-1, none)
  | some (b, τ) => if ((rItem tp L (nxt tp L b) τ).1 = true ∧ (rItem tp L (nxt tp L b) τ).2.1.1 = 0) then (nI (rTn tp L σ + 1), some (rItem tp L (nxt tp L b) τ).2.2) else (-1 - nI (rItem tp L (nxt tp L b) τ).2.1.2.1, none)
theorem rAns_y {tp : Nat → Nat} {L c b : Nat} {σ τ : aL} (hc : c < 120) (h : ∀ i, i < c → (rTx tp L σ (i + 1)).isNone = false) (hx : rTx tp L σ c = some (b, τ)) (h1 : (rItem tp L (nxt tp L b) τ).1 = true) (h2 : (rItem tp L (nxt tp L b) τ).2.1.1 = 0) : rAns tp L σ = (nI (c + 1), some (rItem tp L (nxt tp L b) τ).2.2) := by
  have hn := rTn_at hc h (rTx_n hx (fun z => by rw [h2] at z; exact absurd z.2 (by decide)))
  unfold rAns
  rw [hn, hx]
  exact if_pos ⟨h1, h2⟩
theorem rAns_n {tp : Nat → Nat} {L c b : Nat} {σ τ : aL} (hc : c < 120) (h : ∀ i, i < c → (rTx tp L σ (i + 1)).isNone = false) (hx : rTx tp L σ c = some (b, τ)) (h1 : ¬ ((rItem tp L (nxt tp L b) τ).1 = true ∧ ((rItem tp L (nxt tp L b) τ).2.1.1 = 3 ∨ (rItem tp L (nxt tp L b) τ).2.1.1 = 0))) : rAns tp L σ = (-1 - nI (rItem tp L (nxt tp L b) τ).2.1.2.1, none) := by
  have hn := rTn_at hc h (rTx_n hx (fun z => h1 ⟨z.1, Or.inl z.2⟩))
  unfold rAns
  rw [hn, hx]
  exact if_neg (fun z => h1 ⟨z.1, Or.inr z.2⟩)
def op_text (S : aS) : Int32 × aS := ((rAns S.2.2.2.1.2 S.2.2.2.1.1 S.1).1, (match (rAns S.2.2.2.1.2 S.2.2.2.1.1 S.1).2 with
  | none => st_t S (0, S.2.2.2.1.2)
  | some τ => st_t (st_l S τ) (0, S.2.2.2.1.2)))
/-- an item ends behind its first token -/
theorem rShip_b {tp : Nat → Nat} {L n : Nat} {k : aT} {σ : aL} (h : k.2.2.1 ≤ L) (hk : okT L k) : (rShip tp L k σ n).1 = true ∧ okT L (rShip tp L k σ n).2.1 ∧ k.2.2.1 ≤ (rShip tp L k σ n).2.1.2.2.1 := by
  unfold rShip
  split
  · exact ⟨rfl, nx_ok h, nx_ge h⟩
  · exact ⟨rfl, hk, Nat.le_refl _⟩
theorem rCoin_b {tp : Nat → Nat} {L kd : Nat} {k : aT} {σ : aL} (hk : okT L k) : okT L (rCoin tp L kd k σ).2.1 ∧ ((rCoin tp L kd k σ).1 = true → k.2.2.1 < (rCoin tp L kd k σ).2.1.2.2.1) := by
  have h1 := nx_ok (tp := tp) hk.2.2.1
  have h2 := nx_ok (tp := tp) h1.2.2.1
  have h3 := nx_ok (tp := tp) h2.2.2.1
  have h4 := nx_ok (tp := tp) h3.2.2.1
  have h5 := nx_ok (tp := tp) h4.2.2.1
  have g2 := nx_ge (tp := tp) h1.2.2.1
  have g3 := nx_ge (tp := tp) h2.2.2.1
  have g4 := nx_ge (tp := tp) h3.2.2.1
  have g5 := nx_ge (tp := tp) h4.2.2.1
  unfold rCoin
  split
  · split
    · rename_i q1
      have g1 := nx_gt (tp := tp) hk.2.2.1 (by rw [q1.1]; decide)
      split
      · split
        · split
          · have h9 := rShip_b (tp := tp) (n := σ.1) (σ := ld_cset (ld_add σ kd (nx tp L k).2.2.2 (nx tp L (nx tp L k)).2.2.2) σ.1 (k_set ((ld_add σ kd (nx tp L k).2.2.2 (nx tp L (nx tp L k)).2.2.2).2.1 σ.1) 1 (nx tp L (nx tp L (nx tp L (nx tp L k)))).2.2.2)) h5.2.2.1 h5
            exact ⟨h9.2.1, fun _ => by omega⟩
          · exact ⟨h4, fun z => by cases z⟩
        · have h9 := rShip_b (tp := tp) (n := σ.1) (σ := ld_add σ kd (nx tp L k).2.2.2 (nx tp L (nx tp L k)).2.2.2) h3.2.2.1 h3
          exact ⟨h9.2.1, fun _ => by omega⟩
      · exact ⟨h2, fun z => by cases z⟩
    · exact ⟨h1, fun z => by cases z⟩
  · exact ⟨hk, fun z => by cases z⟩
theorem rPay_b {tp : Nat → Nat} {L : Nat} {k : aT} {σ : aL} (hk : okT L k) : okT L (rPay tp L k σ).2.1 ∧ ((rPay tp L k σ).1 = true → k.2.2.1 < (rPay tp L k σ).2.1.2.2.1) := by
  have h1 := nx_ok (tp := tp) hk.2.2.1
  have h2 := nx_ok (tp := tp) h1.2.2.1
  have h3 := nx_ok (tp := tp) h2.2.2.1
  have h4 := nx_ok (tp := tp) h3.2.2.1
  have g2 := nx_ge (tp := tp) h1.2.2.1
  have g3 := nx_ge (tp := tp) h2.2.2.1
  have g4 := nx_ge (tp := tp) h3.2.2.1
  unfold rPay
  split
  · rename_i q1
    have g1 := nx_gt (tp := tp) hk.2.2.1 (by rw [q1.1]; decide)
    split
    · split
      · refine ⟨h4, fun _ => ?_⟩
        show k.2.2.1 < (nx tp L (nx tp L (nx tp L (nx tp L k)))).2.2.1
        omega
      · exact ⟨h3, fun z => by cases z⟩
    · exact ⟨h2, fun z => by cases z⟩
  · exact ⟨h1, fun z => by cases z⟩
theorem rItem_b {tp : Nat → Nat} {L : Nat} {k : aT} {σ : aL} (hk : okT L k) : okT L (rItem tp L k σ).2.1 ∧ ((rItem tp L k σ).1 = true → k.2.2.1 < (rItem tp L k σ).2.1.2.2.1) := by
  unfold rItem
  split
  · exact rCoin_b hk
  · split
    · exact rPay_b hk
    · exact ⟨hk, fun z => by cases z⟩
theorem rItem_w {tp : Nat → Nat} {L : Nat} {k : aT} {σ : aL} (h : (rItem tp L k σ).1 = true) : k.1 = 1 := by
  unfold rItem at h
  by_cases h7 : kdOf tp k < 7
  · exact (of_decide_eq_true (fa_first_yes (fun t => decide (isW tp k t)) 7 h7)).1
  · rw [if_neg h7] at h
    by_cases hp : isW tp k 7
    · exact hp.1
    · rw [if_neg hp] at h
      cases h
theorem rTx_b {tp : Nat → Nat} {L : Nat} {σ : aL} : ∀ i b τ, rTx tp L σ i = some (b, τ) → 2 * i ≤ b ∧ b ≤ L
  | 0, b, τ, h => by
    cases h
    exact ⟨Nat.le_refl _, Nat.zero_le _⟩
  | i + 1, b, τ, h => by
    change (match rTx tp L σ i with | none => none | some (b, τ) => if ((rItem tp L (nxt tp L b) τ).1 = true ∧ (rItem tp L (nxt tp L b) τ).2.1.1 = 3) then some ((rItem tp L (nxt tp L b) τ).2.1.2.2.1, (rItem tp L (nxt tp L b) τ).2.2) else none) = some (b, τ) at h
    cases e : rTx tp L σ i with
    | none => rw [e] at h; cases h
    | some q =>
      obtain ⟨b0, τ0⟩ := q
      have ih := rTx_b i b0 τ0 e
      rw [e] at h
      change (if ((rItem tp L (nxt tp L b0) τ0).1 = true ∧ (rItem tp L (nxt tp L b0) τ0).2.1.1 = 3) then some ((rItem tp L (nxt tp L b0) τ0).2.1.2.2.1, (rItem tp L (nxt tp L b0) τ0).2.2) else none) = some (b, τ) at h
      by_cases hc : (rItem tp L (nxt tp L b0) τ0).1 = true ∧ (rItem tp L (nxt tp L b0) τ0).2.1.1 = 3
      · rw [if_pos hc] at h
        have hn := nxt_all (tp := tp) ih.2
        have hi := rItem_b (tp := tp) (σ := τ0) hn.1
        have hg := hi.2 hc.1
        have e1 : (rItem tp L (nxt tp L b0) τ0).2.1.2.2.1 = b := congrArg Prod.fst (Option.some.inj h)
        have h3 := hi.1.2.2.1
        have h4 := hn.1.2.1
        have h5 := hn.2.1
        have h6 := hn.2.2 (by rw [rItem_w hc.1]; decide)
        omega
      · rw [if_neg hc] at h
        cases h
