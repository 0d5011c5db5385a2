/-! THE PUBLIC METHODS, as functions of the state (1): coins, pay, there -/
abbrev hasC (n : Nat) (x : Int32) : Prop := 0 ≤ x ∧ x < nI n
theorem z_has {n : Nat} {x : Int32} (hn : n ≤ 10) (h : hasC n x) : ∃ c, c < n ∧ x = nI c := by
  obtain ⟨j, hj, rfl⟩ := nI_of (fun z => absurd h.1 (Int32.not_le.mpr z))
  exact ⟨j, (nI_ltI hj (by omega)).mp h.2, rfl⟩
abbrev twoP (x y : Int32) : Prop := inR x 3 ∧ inR y 3 ∧ x ≠ y
theorem z_two {x y : Int32} (h : twoP x y) : ∃ p q, p < 4 ∧ q < 4 ∧ p ≠ q ∧ x = nI p ∧ y = nI q := by
  obtain ⟨p, hp, rfl⟩ := (inR_iff (by decide)).mp h.1
  obtain ⟨q, hq, rfl⟩ := (inR_iff (by decide)).mp h.2.1
  exact ⟨p, q, by omega, by omega, fun e => h.2.2 (by rw [e]), rfl, rfl⟩
theorem z_fd {w : Nat} (h : w < 7) : (-1000001 : Int32) - fdg w = nI w := by
  have h7 : ∀ w : Fin 7, (-1000001 : Int32) - fdg w.val = nI w.val := by decide
  exact h7 ⟨w, h⟩
def mostOf (y : Int32) : Int32 := if y = nI 0 then nI 6 else if y = nI 1 then nI 3 else if y = nI 2 then nI 99 else if y = nI 3 then nI 99 else if y = nI 4 then nI 1 else -1
def op_coin (S : aS) (x y z : Int32) : Int32 × aS := if inR x 6 then (if inR y 99 then (if inR z 99 then (if S.1.1 = 10 then fnd S 1 else (nI S.1.1, st_l S (ld_add S.1 (tn x) (tn y) (tn z)))) else fnd S 0) else fnd S 0) else fnd S 0
def op_of (S : aS) (x y : Int32) : Int32 × aS := if hasC S.1.1 x then (if inR y 5 then (nI (S.1.2.1 (tn x) (tn y)), S) else if y = nI 6 then (nI (k_now (S.1.2.1 (tn x))), S) else fnd S 0) else fnd S 0
def op_change (S : aS) (x y v : Int32) : Int32 × aS := if hasC S.1.1 x then (if (0 ≤ v ∧ v ≤ mostOf y) then (nI (S.1.2.1 (tn x) (tn y)), st_l S (ld_cset S.1 (tn x) (k_set (S.1.2.1 (tn x)) (tn y) (tn v)))) else fnd S 0) else fnd S 0
def op_turn (S : aS) (x : Int32) : Int32 × aS := if hasC S.1.1 x then (nI (k_now (k_turn (S.1.2.1 (tn x)))), st_l S (ld_cset S.1 (tn x) (k_turn (S.1.2.1 (tn x))))) else fnd S 0
def op_purse (S : aS) (x y : Int32) : Int32 × aS := if inR x 3 then (if y = nI 0 then (nI (ld_in S.1 (tn x)), S) else if y = nI 1 then (nI (ld_sum S.1 (ld_in S.1 (tn x))), S) else if y = nI 2 then (nI (ld_in S.1 (tn x) &&& ld_ly S.1 1), S) else if y = nI 3 then (nI (ld_sumT S.1 (ld_in S.1 (tn x))), S) else fnd S 0) else fnd S 0
def op_sum (S : aS) (x : Int32) : Int32 × aS := if isSet S.1.1 x then (nI (ld_sum S.1 (tn x)), S) else fnd S 0
def op_pay (S : aS) (x y z : Int32) : Int32 × aS := if twoP x y then (if isSet S.1.1 z then (if (z &&& (nI (ld_in S.1 (tn x)) ^^^ (-1))) = 0 then (nI (ld_sum S.1 (tn z)), st_l S (ld_payA S.1 (tn z) (tn y))) else fnd S 4) else fnd S 0) else fnd S 0
def ld_there (σ : aL) (s p q : Nat) : aL := ld_payA (ld_payA σ s q) s p
def op_there (S : aS) (x y : Int32) : Int32 × aS := if twoP x y then (nI (ld_sum (ld_there S.1 (ld_in S.1 (tn x)) (tn x) (tn y)) (ld_in S.1 (tn x))) - nI (ld_sum S.1 (ld_in S.1 (tn x))), st_l S (ld_there S.1 (ld_in S.1 (tn x)) (tn x) (tn y))) else fnd S 0
theorem z_sets {n : Nat} {x : Int32} (hn : n ≤ 10) (h : isSet n x) : ∃ s, s < 2 ^ n ∧ s < 1024 ∧ x = nI s := by
  obtain ⟨s, hs, e⟩ := (isSet_iff hn x).mp h
  exact ⟨s, hs, Nat.lt_of_lt_of_le hs (z_p10 hn), e⟩
theorem ld_in_lt {σ : aL} (h : σ.1 ≤ 10) (p : Nat) : ld_in σ p < 1024 := bitsTo_le _ h
theorem ld_ly_lt {σ : aL} (h : σ.1 ≤ 10) (p : Nat) : ld_ly σ p < 1024 := bitsTo_le _ h
