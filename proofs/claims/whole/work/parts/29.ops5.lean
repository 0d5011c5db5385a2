/-! THE PUBLIC METHODS (5): draws, the tape, round -/
theorem ld_z_z (σ : aL) (a b : Int32) : ld_z (ld_z σ a) b = ld_z σ b := rfl
theorem ld_z_n (σ : aL) (z : Int32) : (ld_z σ z).1 = σ.1 := rfl
theorem ld_z_k (σ : aL) (z : Int32) : (ld_z σ z).2.1 = σ.2.1 := rfl
theorem ld_z_at (σ : aL) (z : Int32) : (ld_z σ z).2.2.2.2 = z := rfl
def k_pay (k : Nat → Nat) (w : Nat) : Nat → Nat := k_set (k_turn k) 1 w
def ld_mkz (σ : aL) (c q : Nat) (z : Int32) : aL := if σ.2.1 c 1 = q then ld_z σ z else ld_cset (ld_z σ z) c (k_pay (σ.2.1 c) q)
def mk_c (σ : aL) : Nat := zn σ.2.2.2.2 % σ.1
def mk_q (σ : aL) : Nat := zn (zd σ.2.2.2.2) % 4
def ld_mk (σ : aL) : aL := ld_mkz σ (mk_c σ) (mk_q σ) (zd (zd σ.2.2.2.2))
def ld_mks (σ : aL) : Nat → aL
  | 0 => σ
  | i + 1 => ld_mk (ld_mks σ i)
theorem ld_mkz_n (σ : aL) (c q : Nat) (z : Int32) : (ld_mkz σ c q z).1 = σ.1 := by
  unfold ld_mkz
  split <;> rfl
theorem ld_mk_n (σ : aL) : (ld_mk σ).1 = σ.1 := ld_mkz_n σ _ _ _
theorem ld_mks_n (σ : aL) : ∀ i, (ld_mks σ i).1 = σ.1
  | 0 => rfl
  | i + 1 => (ld_mk_n _).trans (ld_mks_n σ i)
theorem wf_z {B : Nat} {σ : aL} {z : Int32} (h : wfL B σ) : wfL B (ld_z σ z) := ⟨h.1, h.2.1, h.2.2.1, h.2.2.2⟩
theorem wf_kpay {B w : Nat} {k : Nat → Nat} (h : wfK B k) (hw : w < 4) (hB : B + 2 < 1000000) : wfK (B + 2) (k_pay k w) := by
  have h1 := wf_turn h hB
  exact ⟨h1.1, hw, h1.2.2.1, h1.2.2.2.1, h1.2.2.2.2.1, h1.2.2.2.2.2.1, h1.2.2.2.2.2.2⟩
theorem wf_cset2 {B B' c : Nat} {σ : aL} {k : Nat → Nat} (h : wfL B σ) (hk : wfK B' k) (h1 : B ≤ B') (h2 : B' < 1000000) : wfL B' (ld_cset σ c k) := by
  refine ⟨h.1, fun c' hc' => ?_, h.2.2.1, h2⟩
  show wfK B' (if c' = c then k else σ.2.1 c')
  split
  · exact hk
  · exact (h.2.1 c' hc').up h1 h2
theorem mk_c_lt {σ : aL} (h : 0 < σ.1) : mk_c σ < σ.1 := Nat.mod_lt _ h
theorem wf_mkz {B c q : Nat} {σ : aL} {z : Int32} (h : wfL B σ) (hc : c < σ.1) (hq : q < 4) (hB : B + 2 < 1000000) : wfL (B + 2) (ld_mkz σ c q z) := by
  unfold ld_mkz
  have hz : wfL B (ld_z σ z) := wf_z h
  split
  · exact hz.up (by omega) hB
  · exact wf_cset2 hz (wf_kpay (h.2.1 _ hc) hq hB) (by omega) hB
theorem wf_mk {B : Nat} {σ : aL} (h : wfL B σ) (h0 : 0 < σ.1) (hB : B + 2 < 1000000) : wfL (B + 2) (ld_mk σ) := wf_mkz h (mk_c_lt h0) (Nat.mod_lt _ (by decide)) hB
theorem wf_mks {B : Nat} {σ : aL} (h : wfL B σ) (h0 : 0 < σ.1) : ∀ i, B + 2 * i < 1000000 → wfL (B + 2 * i) (ld_mks σ i)
  | 0, _ => h
  | i + 1, hB => wf_mk (wf_mks h h0 i (by omega)) (by rw [ld_mks_n]; exact h0) (by omega)
def op_market (S : aS) (x : Int32) : Int32 × aS := if (nI 1 ≤ x ∧ x ≤ nI 12) then (if S.1.1 = 0 then fnd S 4 else (nI (ld_sum (ld_mks S.1 (tn x)) (ld_in (ld_mks S.1 (tn x)) 0)), st_l S (ld_mks S.1 (tn x)))) else fnd S 0
/-- the draws -/
def zs (z : Int32) : Nat → Int32
  | 0 => z
  | i + 1 => zd (zs z i)
def pcnt (s : Nat) : Nat := fb_ct (fun c => s.testBit c) 10
theorem pcnt_le (s : Nat) : pcnt s ≤ 10 := fb_ct_le _ _
def op_toss (S : aS) (x y : Int32) : Int32 × aS := if isSet S.1.1 x then (if inR y 20 then (nI (fb_ct (fun i => decide (zn (zs S.1.2.2.2.2 i) % 2 = 0)) (tn y * pcnt (tn x))), st_l S (ld_z S.1 (zs S.1.2.2.2.2 (tn y * pcnt (tn x))))) else fnd S 0) else fnd S 0
def bt (s : Nat) : Nat → Nat
  | 0 => s
  | i + 1 => bt s i &&& (bt s i - 1)
set_option maxRecDepth 100000 in
theorem bt_d : ∀ s : Fin 1024, (s.val = 0 ∧ pcnt s.val = 0) ∨ (s.val ≠ 0 ∧ pcnt (s.val &&& (s.val - 1)) + 1 = pcnt s.val) := by decide +kernel
theorem bt_lt {s : Nat} (h : s < 1024) : ∀ i, bt s i < 1024
  | 0 => h
  | i + 1 => Nat.lt_of_le_of_lt Nat.and_le_left (bt_lt h i)
theorem bt_c {s : Nat} (h : s < 1024) : ∀ i, i ≤ pcnt s → pcnt (bt s i) + i = pcnt s
  | 0, _ => rfl
  | i + 1, hi => by
    have h1 := bt_c h i (by omega)
    have h2 := bt_d ⟨bt s i, bt_lt h i⟩
    show pcnt (bt s i &&& (bt s i - 1)) + (i + 1) = _
    simp only at h2
    omega
theorem bt_nz {s i : Nat} (h : s < 1024) (hi : i < pcnt s) : bt s i ≠ 0 := by
  have h1 := bt_c h i (by omega)
  have h2 := bt_d ⟨bt s i, bt_lt h i⟩
  simp only at h2
  omega
theorem bt_end {s : Nat} (h : s < 1024) : bt s (pcnt s) = 0 := by
  have h1 := bt_c h (pcnt s) (Nat.le_refl _)
  have h2 := bt_d ⟨bt s (pcnt s), bt_lt h _⟩
  simp only at h2
  omega
/-- the tape -/
def fby (x : Int32) (i : Nat) : Nat := x.toBitVec.toNat / 2 ^ (8 * i) % 256
theorem z_hu (x : Int32) (i : Nat) (hi : i < 4) : (x.toUInt32 >>> ((nI (8 * i)).toUInt32 &&& Int32.toUInt32 31)).toInt32 &&& nI 255 = nI (fby x i) := by
  have h : (x.toUInt32 >>> ((nI (8 * i)).toUInt32 &&& Int32.toUInt32 31)).toInt32.toBitVec.toNat = x.toBitVec.toNat / 2 ^ (8 * i) := pk_ushr x (nI (8 * i)) (8 * i) (s_u _ (by omega))
  apply Int32.toBitVec_inj.1
  apply BitVec.eq_of_toNat_eq
  rw [Int32.toBitVec_and, BitVec.toNat_and, h, show (nI 255).toBitVec.toNat = 2 ^ 8 - 1 from rfl, Nat.and_two_pow_sub_one_eq_mod]
  exact (pk_tn (Nat.lt_of_lt_of_le (Nat.mod_lt _ (by decide)) (by decide))).symm
theorem z_hs (x : Int32) (i : Nat) (hi : i < 4) : (x >>> (nI (8 * i) &&& 31)) &&& nI 255 = nI (fby x i) := by
  apply Int32.toBitVec_inj.1
  apply BitVec.eq_of_getLsbD_eq
  intro j hj
  show ((x.toBitVec.sshiftRight ((nI (8 * i) &&& 31).toBitVec.smod 32).toNat) &&& (nI 255).toBitVec).getLsbD j = _
  rw [s_l (8 * i) (by omega), BitVec.getLsbD_and, BitVec.getLsbD_sshiftRight, z_lsb 255 j hj, z_lsb _ j hj]
  unfold fby
  rw [show (256 : Nat) = 2 ^ 8 from rfl, Nat.testBit_mod_two_pow, Nat.testBit_div_two_pow, show (255 : Nat) = 2 ^ 8 - 1 from rfl, Nat.testBit_two_pow_sub_one]
  by_cases h8 : j < 8
  · rw [if_pos (by omega), show (decide (32 ≤ j)) = false from decide_eq_false (by omega), decide_eq_true h8, Nat.add_comm (8 * i) j]
    simp only [Bool.not_false, Bool.true_and, Bool.and_true]
    rfl
  · rw [decide_eq_false h8, Bool.and_false, Bool.false_and]
theorem fby_lt (x : Int32) (i : Nat) : fby x i < 256 := Nat.mod_lt _ (by decide)
def ft (L n : Nat) (tp : Nat → Nat) (x : Int32) : Nat → Nat := fun j => if j < L then tp j else fby x (n - 1 - (j - L))
def op_feed (S : aS) (x y : Int32) : Int32 × aS := if (nI 1 ≤ y ∧ y ≤ nI 4) then (if S.2.2.2.1.1 + tn y ≤ 120 then (nI (S.2.2.2.1.1 + tn y), st_t S (S.2.2.2.1.1 + tn y, ft S.2.2.2.1.1 (tn y) S.2.2.2.1.2 x)) else fnd S 1) else fnd S 0
theorem InvC.tape {I I' : Nat → Nat → Int32} {B L : Nat} {f : Nat → Nat} {S : aS} (h : InvC I S) (hw : wfS B S) (hL : I' 0 5 = nI L) (h3 : I' 0 3 = I 0 3) (ht : ∀ j, j < L → I' 40 j = nI (f j)) (hf : ∀ i, i ≠ 0 → i ≠ 40 → I' i = I i) : InvC I' (st_t S (L, f)) := by
  obtain ⟨h1, h2, h3', h4, h5, h6, h7⟩ := h
  refine ⟨h1.mv hw.1.1 (fun i a b => hf i (by omega) (by omega)), h3.trans h2, fun k => (h3' k).mv (hw.2.2.1 k).1 (fun i a b => hf i (by omega) (by omega)), hL, ht, fun i hi => by rw [hf 67 (by decide) (by decide)]; exact h6 i hi, fun s hs => ?_⟩
  rw [hf (68 + 2 * s) (by omega) (by omega), hf (69 + 2 * s) (by omega) (by omega)]
  exact h7 s hs
theorem InvM.tape {I I' : Nat → Nat → Int32} {L : Nat} {f : Nat → Nat} {S : aS} (h : InvM I S) (hL : I' 76 10 = nI L) (h3 : I' 76 3 = I 76 3) (ht : ∀ j, j < L → I' 82 j = nI (f j)) (hf : ∀ i, i ≠ 76 → i ≠ 82 → I' i = I i) : InvM I' (st_t S (L, f)) := by
  obtain ⟨h1, h2, h3', h4, h5, h6, h7⟩ := h
  exact ⟨h1.mv (hf _ (by decide) (by decide)), h3.trans h2, fun k => (h3' k).mv (hf _ (by decide) (by decide)), hL, ht, by rw [hf _ (by decide) (by decide)]; exact h6, by rw [hf _ (by decide) (by decide), hf _ (by decide) (by decide), hf _ (by decide) (by decide)]; exact h7⟩
/-- round -/
def rk (k : Nat → Nat) (q : Nat) : Nat → (Nat → Nat)
  | 0 => k
  | i + 1 => k_pay (rk k q i) (if i % 2 = 0 then q else k 1)
theorem rk_p (k : Nat → Nat) (q : Nat) : ∀ i, rk k q i 1 = if i % 2 = 0 then k 1 else q
  | 0 => rfl
  | i + 1 => by
    show k_set (k_turn (rk k q i)) 1 (if i % 2 = 0 then q else k 1) 1 = _
    have e : k_set (k_turn (rk k q i)) 1 (if i % 2 = 0 then q else k 1) 1 = (if i % 2 = 0 then q else k 1) := by simp [k_set]
    rw [e]
    rcases Nat.mod_two_eq_zero_or_one i with h | h
    · rw [if_pos h, if_neg (show ¬ (i + 1) % 2 = 0 by omega)]
    · rw [if_neg (show ¬ i % 2 = 0 by omega), if_pos (show (i + 1) % 2 = 0 by omega)]
def rk_y (k : Nat → Nat) (q : Nat) (i : Nat) : Bool := decide (k_now k < k_now (rk k q (i + 1)))
def op_round (S : aS) (x y : Int32) : Int32 × aS := if hasC S.1.1 x then (if twoP (nI (S.1.2.1 (tn x) 1)) y then (if fa_first (rk_y (S.1.2.1 (tn x)) (tn y)) 6 < 6 then (nI (fa_first (rk_y (S.1.2.1 (tn x)) (tn y)) 6 + 1), S) else fnd S 3) else fnd S 0) else fnd S 0
theorem wf_rk {B q : Nat} {k : Nat → Nat} (h : wfK B k) (hq : q < 4) : ∀ i, B + 2 * i < 1000000 → wfK (B + 2 * i) (rk k q i)
  | 0, _ => h
  | i + 1, hB => wf_kpay (wf_rk h hq i (by omega)) (by have := h.2.1; split <;> omega) (by omega)
theorem fst_is {p : Nat → Bool} {n c : Nat} (hc : c < n) (h : ∀ i, i < c → p i = false) (hy : p c = true) : fa_first p n = c := by
  rcases Nat.lt_trichotomy (fa_first p n) c with h1 | h1 | h1
  · have h2 := fa_first_yes p n (by omega)
    rw [h _ h1] at h2
    cases h2
  · exact h1
  · have h2 := fa_first_no p n c h1
    rw [hy] at h2
    cases h2
theorem fst_no {p : Nat → Bool} {n : Nat} (h : ∀ i, i < n → p i = false) : ¬ fa_first p n < n := fun h1 => by
  have h2 := fa_first_yes p n h1
  rw [h _ h1] at h2
  cases h2
