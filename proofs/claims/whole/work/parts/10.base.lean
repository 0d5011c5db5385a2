/-! THE STEADY MEMORY: 90 cells, and rules in the words of natural numbers -/
def sh0 : List (Nat × Nat × Nat) := [(0, 6, 11), (0, 1, 5), (1, 3, 10), (1, 0, 10), (0, 0, 6), (0, 0, 6), (0, 0, 6), (0, 0, 6), (0, 0, 6), (0, 0, 6), (0, 0, 6), (0, 0, 6), (0, 0, 6), (0, 0, 6), (0, 1, 5), (1, 3, 10), (1, 0, 10), (0, 0, 6), (0, 0, 6), (0, 0, 6), (0, 0, 6), (0, 0, 6), (0, 0, 6), (0, 0, 6), (0, 0, 6), (0, 0, 6), (0, 0, 6), (0, 1, 5), (1, 3, 10), (1, 0, 10), (0, 0, 6), (0, 0, 6), (0, 0, 6), (0, 0, 6), (0, 0, 6), (0, 0, 6), (0, 0, 6), (0, 0, 6), (0, 0, 6), (0, 0, 6), (1, 0, 120), (0, 3, 6), (1, 0, 0), (1, 4, 4), (0, 2, 9), (1, 6, 11), (1, 1, 16), (1, 1, 16), (1, 1, 16), (1, 1, 16), (1, 1, 16), (1, 1, 16), (1, 1, 16), (1, 1, 16), (1, 1, 16), (1, 1, 16), (1, 1, 16), (1, 1, 16), (1, 0, 10), (1, 0, 10), (1, 0, 10), (0, 5, 9), (1, 0, 1024), (1, 0, 1024), (1, 0, 10), (1, 0, 10), (1, 0, 10), (1, 0, 7), (0, 4, 3), (1, 0, 40), (0, 4, 3), (1, 0, 40), (0, 4, 3), (1, 0, 40), (0, 4, 3), (1, 0, 40), (0, 7, 25), (1, 0, 73), (1, 0, 73), (1, 0, 73), (1, 0, 8), (1, 2, 1001), (1, 0, 120), (1, 5, 7), (1, 0, 600), (1, 0, 10), (1, 0, 4), (1, 0, 4), (1, 0, 160), (1, 0, 40)]
def Rf (t i k : Nat) : Option Nat :=
  if i = 2 ∨ i = 15 ∨ i = 28 then (if k < 10 then some (i + 2 + k) else none)
  else if i = 43 then (if k < 4 then some (68 + 2 * k) else none)
  else if i = 45 then (if k < 11 then some (46 + k) else none)
  else if i = 83 then (if k < 7 then some (1000 + k) else none)
  else if i = 0 then [some 1, some 14, some 27, none, some 40, none, some 41, some 43, some 44, some 61, some 67].getD k none
  else if i = 1 then [some 2, some 3].getD k none
  else if i = 14 then [some 15, some 16].getD k none
  else if i = 27 then [some 28, some 29].getD k none
  else if i = 41 then [some t].getD k none
  else if i = 44 then [some 45, some 57, none, none, some 58, some 59, some 60].getD k none
  else if i = 61 then [some 62, some 63, none, some 64, some 65, some 66].getD k none
  else if i = 68 then [some 69].getD k none
  else if i = 70 then [some 71].getD k none
  else if i = 72 then [some 73].getD k none
  else if i = 74 then [some 75].getD k none
  else if i = 76 then [some 77, some 78, some 79, none, some 80, some 81, none, none, none, some 82, none, none, none, none, none, none, some 83, some 84, none, none, some 85, some 86, some 87, some 88, some 89].getD k none
  else none
abbrev mm (I : Nat → Nat → Int32) (J : Nat → Nat → Int64) (t : Nat) : mM := (sh0, I, J, Rf t)
def isLand (b : Nat) : Prop := b = 1 ∨ b = 14 ∨ b = 27
theorem sh_land {b : Nat} (h : isLand b) : sh0[b]? = some (0, 1, 5) := by rcases h with rfl | rfl | rfl <;> rfl
theorem sh_coins {b : Nat} (h : isLand b) : sh0[b + 1]? = some (1, 3, 10) := by rcases h with rfl | rfl | rfl <;> rfl
theorem sh_spots {b : Nat} (h : isLand b) : sh0[b + 2]? = some (1, 0, 10) := by rcases h with rfl | rfl | rfl <;> rfl
theorem sh_coin {b c : Nat} (h : isLand b) (hc : c < 10) : sh0[b + 3 + c]? = some (0, 0, 6) := by
  have h10 : ∀ c : Fin 10, sh0[1 + 3 + c.val]? = some (0, 0, 6) ∧ sh0[14 + 3 + c.val]? = some (0, 0, 6) ∧ sh0[27 + 3 + c.val]? = some (0, 0, 6) := by decide
  rcases h with rfl | rfl | rfl
  · exact (h10 ⟨c, hc⟩).1
  · exact (h10 ⟨c, hc⟩).2.1
  · exact (h10 ⟨c, hc⟩).2.2
theorem R_coins {b t : Nat} (h : isLand b) : Rf t b 0 = some (b + 1) := by rcases h with rfl | rfl | rfl <;> rfl
theorem R_spots {b t : Nat} (h : isLand b) : Rf t b 1 = some (b + 2) := by rcases h with rfl | rfl | rfl <;> rfl
theorem R_coin {b t c : Nat} (h : isLand b) (hc : c < 10) : Rf t (b + 1) c = some (b + 3 + c) := by
  rcases h with rfl | rfl | rfl <;> simp [Rf, hc]
theorem sh_sheet {s : Nat} (h : s < 4) : sh0[68 + 2 * s]? = some (0, 4, 3) := by
  have h4 : ∀ s : Fin 4, sh0[68 + 2 * s.val]? = some (0, 4, 3) := by decide
  exact h4 ⟨s, h⟩
theorem sh_nums {s : Nat} (h : s < 4) : sh0[69 + 2 * s]? = some (1, 0, 40) := by
  have h4 : ∀ s : Fin 4, sh0[69 + 2 * s.val]? = some (1, 0, 40) := by decide
  exact h4 ⟨s, h⟩
theorem R_sheet {s t : Nat} (h : s < 4) : Rf t 43 s = some (68 + 2 * s) := by simp [Rf, h]
theorem R_nums {s t : Nat} (h : s < 4) : Rf t (68 + 2 * s) 0 = some (69 + 2 * s) := by
  have h4 : ∀ s : Fin 4, Rf t (68 + 2 * s.val) 0 = some (69 + 2 * s.val) := by
    intro s
    match s with
    | 0 => rfl
    | 1 => rfl
    | 2 => rfl
    | 3 => rfl
  exact h4 ⟨s, h⟩
theorem sh_row {d : Nat} (h : d < 11) : sh0[46 + d]? = some (1, 1, 16) := by
  have h4 : ∀ s : Fin 11, sh0[46 + s.val]? = some (1, 1, 16) := by decide
  exact h4 ⟨d, h⟩
theorem R_row {d t : Nat} (h : d < 11) : Rf t 45 d = some (46 + d) := by simp [Rf, h]
theorem R_kind {d t : Nat} (h : d < 7) : Rf t 83 d = some (1000 + d) := by simp [Rf, h]
/-- a truth as an int -/
def b2 (p : Prop) [Decidable p] : Int32 := if p then 1 else 0
theorem b2_t {p : Prop} [Decidable p] (h : p) : b2 p = 1 := if_pos h
theorem b2_f {p : Prop} [Decidable p] (h : ¬ p) : b2 p = 0 := if_neg h
theorem b2_n (p : Prop) [Decidable p] : narrow .boolean (.int (b2 p)) = .int (b2 p) := by unfold b2; split <;> rfl
theorem b2_eq1 {p : Prop} [Decidable p] : b2 p = 1 ↔ p := by unfold b2; split <;> simp_all
theorem b2_eq0 {p : Prop} [Decidable p] : b2 p = 0 ↔ ¬ p := by unfold b2; split <;> simp_all
theorem b2_congr {p q : Prop} [Decidable p] [Decidable q] (h : p ↔ q) : b2 p = b2 q := by unfold b2; simp only [h]
section ZB
variable {G : mG} {E E' : mE} {cn : Nat × Nat} {pc pc' tgt : Nat} {lv lv' : List (Nat × Value)} {st st0 : List Value} {Q Q' : Option Value → mM → Prop} {M : mM} {off : Int}
variable {sh : List (Nat × Nat × Nat)} {I : Nat → Nat → Int32} {J : Nat → Nat → Int64} {R : Nat → Nat → Option Nat}
theorem zA_iadd {x y z : Int32} (hd : decode E.2.1 pc = .ok (.iadd, 1)) (hp : pc + 1 = pc')  (hz : x + y = z) (k : zV G E cn pc' lv (.int z :: st) M Q) : zV G E cn pc lv (.int y :: .int x :: st) M Q := by
  subst hz
  exact zV_iadd hd hp  k
theorem zA_isub {x y z : Int32} (hd : decode E.2.1 pc = .ok (.isub, 1)) (hp : pc + 1 = pc')  (hz : x - y = z) (k : zV G E cn pc' lv (.int z :: st) M Q) : zV G E cn pc lv (.int y :: .int x :: st) M Q := by
  subst hz
  exact zV_isub hd hp  k
theorem zA_imul {x y z : Int32} (hd : decode E.2.1 pc = .ok (.imul, 1)) (hp : pc + 1 = pc')  (hz : x * y = z) (k : zV G E cn pc' lv (.int z :: st) M Q) : zV G E cn pc lv (.int y :: .int x :: st) M Q := by
  subst hz
  exact zV_imul hd hp  k
theorem zA_iand {x y z : Int32} (hd : decode E.2.1 pc = .ok (.iand, 1)) (hp : pc + 1 = pc')  (hz : x &&& y = z) (k : zV G E cn pc' lv (.int z :: st) M Q) : zV G E cn pc lv (.int y :: .int x :: st) M Q := by
  subst hz
  exact zV_iand hd hp  k
theorem zA_ior {x y z : Int32} (hd : decode E.2.1 pc = .ok (.ior, 1)) (hp : pc + 1 = pc')  (hz : x ||| y = z) (k : zV G E cn pc' lv (.int z :: st) M Q) : zV G E cn pc lv (.int y :: .int x :: st) M Q := by
  subst hz
  exact zV_ior hd hp  k
theorem zA_ixor {x y z : Int32} (hd : decode E.2.1 pc = .ok (.ixor, 1)) (hp : pc + 1 = pc')  (hz : x ^^^ y = z) (k : zV G E cn pc' lv (.int z :: st) M Q) : zV G E cn pc lv (.int y :: .int x :: st) M Q := by
  subst hz
  exact zV_ixor hd hp  k
theorem zA_ishl {x y z : Int32} (hd : decode E.2.1 pc = .ok (.ishl, 1)) (hp : pc + 1 = pc')  (hz : x <<< (y &&& 31) = z) (k : zV G E cn pc' lv (.int z :: st) M Q) : zV G E cn pc lv (.int y :: .int x :: st) M Q := by
  subst hz
  exact zV_ishl hd hp  k
theorem zA_ishr {x y z : Int32} (hd : decode E.2.1 pc = .ok (.ishr, 1)) (hp : pc + 1 = pc')  (hz : x >>> (y &&& 31) = z) (k : zV G E cn pc' lv (.int z :: st) M Q) : zV G E cn pc lv (.int y :: .int x :: st) M Q := by
  subst hz
  exact zV_ishr hd hp  k
theorem zA_iushr {x y z : Int32} (hd : decode E.2.1 pc = .ok (.iushr, 1)) (hp : pc + 1 = pc')  (hz : (x.toUInt32 >>> (y.toUInt32 &&& Int32.toUInt32 31)).toInt32 = z) (k : zV G E cn pc' lv (.int z :: st) M Q) : zV G E cn pc lv (.int y :: .int x :: st) M Q := by
  subst hz
  exact zV_iushr hd hp  k
theorem zA_idiv {x y z : Int32} (hd : decode E.2.1 pc = .ok (.idiv, 1)) (hp : pc + 1 = pc') (hne : ¬ y = 0) (hz : x / y = z) (k : zV G E cn pc' lv (.int z :: st) M Q) : zV G E cn pc lv (.int y :: .int x :: st) M Q := by
  subst hz
  exact zV_idiv hd hp hne k
theorem zA_irem {x y z : Int32} (hd : decode E.2.1 pc = .ok (.irem, 1)) (hp : pc + 1 = pc') (hne : ¬ y = 0) (hz : x - x / y * y = z) (k : zV G E cn pc' lv (.int z :: st) M Q) : zV G E cn pc lv (.int y :: .int x :: st) M Q := by
  subst hz
  exact zV_irem hd hp hne k
theorem zA_ineg {x z : Int32} (hd : decode E.2.1 pc = .ok (.ineg, 1)) (hp : pc + 1 = pc')  (hz : -x = z) (k : zV G E cn pc' lv (.int z :: st) M Q) : zV G E cn pc lv (.int x :: st) M Q := by
  subst hz
  exact zV_ineg hd hp  k
theorem zA_ladd {x y z : Int64} (hd : decode E.2.1 pc = .ok (.ladd, 1)) (hp : pc + 1 = pc')  (hz : x + y = z) (k : zV G E cn pc' lv (.long z :: st) M Q) : zV G E cn pc lv (.long y :: .long x :: st) M Q := by
  subst hz
  exact zV_ladd hd hp  k
theorem zA_lsub {x y z : Int64} (hd : decode E.2.1 pc = .ok (.lsub, 1)) (hp : pc + 1 = pc')  (hz : x - y = z) (k : zV G E cn pc' lv (.long z :: st) M Q) : zV G E cn pc lv (.long y :: .long x :: st) M Q := by
  subst hz
  exact zV_lsub hd hp  k
theorem zA_lmul {x y z : Int64} (hd : decode E.2.1 pc = .ok (.lmul, 1)) (hp : pc + 1 = pc')  (hz : x * y = z) (k : zV G E cn pc' lv (.long z :: st) M Q) : zV G E cn pc lv (.long y :: .long x :: st) M Q := by
  subst hz
  exact zV_lmul hd hp  k
theorem zA_land {x y z : Int64} (hd : decode E.2.1 pc = .ok (.land, 1)) (hp : pc + 1 = pc')  (hz : x &&& y = z) (k : zV G E cn pc' lv (.long z :: st) M Q) : zV G E cn pc lv (.long y :: .long x :: st) M Q := by
  subst hz
  exact zV_land hd hp  k
theorem zA_lor {x y z : Int64} (hd : decode E.2.1 pc = .ok (.lor, 1)) (hp : pc + 1 = pc')  (hz : x ||| y = z) (k : zV G E cn pc' lv (.long z :: st) M Q) : zV G E cn pc lv (.long y :: .long x :: st) M Q := by
  subst hz
  exact zV_lor hd hp  k
theorem zA_lxor {x y z : Int64} (hd : decode E.2.1 pc = .ok (.lxor, 1)) (hp : pc + 1 = pc')  (hz : x ^^^ y = z) (k : zV G E cn pc' lv (.long z :: st) M Q) : zV G E cn pc lv (.long y :: .long x :: st) M Q := by
  subst hz
  exact zV_lxor hd hp  k
theorem zA_ldiv {x y z : Int64} (hd : decode E.2.1 pc = .ok (.ldiv, 1)) (hp : pc + 1 = pc') (hne : ¬ y = 0) (hz : x / y = z) (k : zV G E cn pc' lv (.long z :: st) M Q) : zV G E cn pc lv (.long y :: .long x :: st) M Q := by
  subst hz
  exact zV_ldiv hd hp hne k
theorem zA_lrem {x y z : Int64} (hd : decode E.2.1 pc = .ok (.lrem, 1)) (hp : pc + 1 = pc') (hne : ¬ y = 0) (hz : x - x / y * y = z) (k : zV G E cn pc' lv (.long z :: st) M Q) : zV G E cn pc lv (.long y :: .long x :: st) M Q := by
  subst hz
  exact zV_lrem hd hp hne k
theorem zA_lshl {x z : Int64} {y : Int32} (hd : decode E.2.1 pc = .ok (.lshl, 1)) (hp : pc + 1 = pc')  (hz : x <<< (y.toInt64 &&& 63) = z) (k : zV G E cn pc' lv (.long z :: st) M Q) : zV G E cn pc lv (.int y :: .long x :: st) M Q := by
  subst hz
  exact zV_lshl hd hp  k
theorem zA_lshr {x z : Int64} {y : Int32} (hd : decode E.2.1 pc = .ok (.lshr, 1)) (hp : pc + 1 = pc')  (hz : x >>> (y.toInt64 &&& 63) = z) (k : zV G E cn pc' lv (.long z :: st) M Q) : zV G E cn pc lv (.int y :: .long x :: st) M Q := by
  subst hz
  exact zV_lshr hd hp  k
theorem zA_lushr {x z : Int64} {y : Int32} (hd : decode E.2.1 pc = .ok (.lushr, 1)) (hp : pc + 1 = pc')  (hz : (x.toUInt64 >>> (y.toInt64.toUInt64 &&& Int64.toUInt64 63)).toInt64 = z) (k : zV G E cn pc' lv (.long z :: st) M Q) : zV G E cn pc lv (.int y :: .long x :: st) M Q := by
  subst hz
  exact zV_lushr hd hp  k
theorem zA_i2l {x : Int32} {z : Int64} (hd : decode E.2.1 pc = .ok (.i2l, 1)) (hp : pc + 1 = pc')  (hz : x.toInt64 = z) (k : zV G E cn pc' lv (.long z :: st) M Q) : zV G E cn pc lv (.int x :: st) M Q := by
  subst hz
  exact zV_i2l hd hp  k
theorem zA_l2i {x : Int64} {z : Int32} (hd : decode E.2.1 pc = .ok (.l2i, 1)) (hp : pc + 1 = pc')  (hz : x.toInt32 = z) (k : zV G E cn pc' lv (.int z :: st) M Q) : zV G E cn pc lv (.long x :: st) M Q := by
  subst hz
  exact zV_l2i hd hp  k
theorem zA_i2b {x z : Int32} (hd : decode E.2.1 pc = .ok (.i2b, 1)) (hp : pc + 1 = pc')  (hz : x.toInt8.toInt32 = z) (k : zV G E cn pc' lv (.int z :: st) M Q) : zV G E cn pc lv (.int x :: st) M Q := by
  subst hz
  exact zV_i2b hd hp  k
theorem zA_i2s {x z : Int32} (hd : decode E.2.1 pc = .ok (.i2s, 1)) (hp : pc + 1 = pc')  (hz : x.toInt16.toInt32 = z) (k : zV G E cn pc' lv (.int z :: st) M Q) : zV G E cn pc lv (.int x :: st) M Q := by
  subst hz
  exact zV_i2s hd hp  k
theorem zA_i2c {x z : Int32} (hd : decode E.2.1 pc = .ok (.i2c, 1)) (hp : pc + 1 = pc')  (hz : (x.toUInt32 % 65536).toInt32 = z) (k : zV G E cn pc' lv (.int z :: st) M Q) : zV G E cn pc lv (.int x :: st) M Q := by
  subst hz
  exact zV_i2c hd hp  k
theorem zA_lcmp {x y : Int64} {z : Int32} (hd : decode E.2.1 pc = .ok (.lcmp, 1)) (hp : pc + 1 = pc')  (hz : lg_cmp x y = z) (k : zV G E cn pc' lv (.int z :: st) M Q) : zV G E cn pc lv (.long y :: .long x :: st) M Q := by
  subst hz
  exact zV_lcmp hd hp  k
theorem zN_icmp_eq {a b : Nat} (hd : decode E.2.1 pc = .ok (.if_icmp .eq off, 3)) (ht : (pc : Int) + off = (tgt : Int)) (hp : pc + 3 = pc') (ha : a < 2 ^ 31) (hb : b < 2 ^ 31) (kt : a = b → zV G E cn tgt lv st M Q) (kf : a ≠ b → zV G E cn pc' lv st M Q) : zV G E cn pc lv (.int (nI b) :: .int (nI a) :: st) M Q :=
  zV_icmp_eq hd ht hp (fun z => kt ((nI_eq ha hb).mp z)) (fun z => kf (fun e => z ((nI_eq ha hb).mpr e)))
theorem zN_icmp_ne {a b : Nat} (hd : decode E.2.1 pc = .ok (.if_icmp .ne off, 3)) (ht : (pc : Int) + off = (tgt : Int)) (hp : pc + 3 = pc') (ha : a < 2 ^ 31) (hb : b < 2 ^ 31) (kt : a ≠ b → zV G E cn tgt lv st M Q) (kf : a = b → zV G E cn pc' lv st M Q) : zV G E cn pc lv (.int (nI b) :: .int (nI a) :: st) M Q :=
  zV_icmp_ne hd ht hp (fun z => kt (fun e => z ((nI_eq ha hb).mpr e))) (fun z => kf ((nI_eq ha hb).mp z))
theorem zN_icmp_lt {a b : Nat} (hd : decode E.2.1 pc = .ok (.if_icmp .lt off, 3)) (ht : (pc : Int) + off = (tgt : Int)) (hp : pc + 3 = pc') (ha : a < 2 ^ 31) (hb : b < 2 ^ 31) (kt : a < b → zV G E cn tgt lv st M Q) (kf : b ≤ a → zV G E cn pc' lv st M Q) : zV G E cn pc lv (.int (nI b) :: .int (nI a) :: st) M Q :=
  zV_icmp_lt hd ht hp (fun z => kt ((nI_ltI ha hb).mp z)) (fun z => kf (Nat.not_lt.mp (fun e => z ((nI_ltI ha hb).mpr e))))
theorem zN_icmp_ge {a b : Nat} (hd : decode E.2.1 pc = .ok (.if_icmp .ge off, 3)) (ht : (pc : Int) + off = (tgt : Int)) (hp : pc + 3 = pc') (ha : a < 2 ^ 31) (hb : b < 2 ^ 31) (kt : b ≤ a → zV G E cn tgt lv st M Q) (kf : a < b → zV G E cn pc' lv st M Q) : zV G E cn pc lv (.int (nI b) :: .int (nI a) :: st) M Q :=
  zV_icmp_ge hd ht hp (fun z => kt ((nI_leI hb ha).mp z)) (fun z => kf (Nat.not_le.mp (fun e => z ((nI_leI hb ha).mpr e))))
theorem zN_icmp_gt {a b : Nat} (hd : decode E.2.1 pc = .ok (.if_icmp .gt off, 3)) (ht : (pc : Int) + off = (tgt : Int)) (hp : pc + 3 = pc') (ha : a < 2 ^ 31) (hb : b < 2 ^ 31) (kt : b < a → zV G E cn tgt lv st M Q) (kf : a ≤ b → zV G E cn pc' lv st M Q) : zV G E cn pc lv (.int (nI b) :: .int (nI a) :: st) M Q :=
  zV_icmp_gt hd ht hp (fun z => kt ((nI_ltI hb ha).mp z)) (fun z => kf (Nat.not_lt.mp (fun e => z ((nI_ltI hb ha).mpr e))))
theorem zN_icmp_le {a b : Nat} (hd : decode E.2.1 pc = .ok (.if_icmp .le off, 3)) (ht : (pc : Int) + off = (tgt : Int)) (hp : pc + 3 = pc') (ha : a < 2 ^ 31) (hb : b < 2 ^ 31) (kt : a ≤ b → zV G E cn tgt lv st M Q) (kf : b < a → zV G E cn pc' lv st M Q) : zV G E cn pc lv (.int (nI b) :: .int (nI a) :: st) M Q :=
  zV_icmp_le hd ht hp (fun z => kt ((nI_leI ha hb).mp z)) (fun z => kf (Nat.not_le.mp (fun e => z ((nI_leI ha hb).mpr e))))
theorem zN_if_eq {a : Nat} (hd : decode E.2.1 pc = .ok (.ifCond .eq off, 3)) (ht : (pc : Int) + off = (tgt : Int)) (hp : pc + 3 = pc') (ha : a < 2 ^ 31) (kt : a = 0 → zV G E cn tgt lv st M Q) (kf : a ≠ 0 → zV G E cn pc' lv st M Q) : zV G E cn pc lv (.int (nI a) :: st) M Q := by
  have e : nI a = 0 ↔ a = 0 := nI_eq ha (by decide : (0 : Nat) < 2 ^ 31)
  exact zV_if_eq hd ht hp (fun z => kt (e.mp z)) (fun z => kf (fun q => z (e.mpr q)))
theorem zN_if_ne {a : Nat} (hd : decode E.2.1 pc = .ok (.ifCond .ne off, 3)) (ht : (pc : Int) + off = (tgt : Int)) (hp : pc + 3 = pc') (ha : a < 2 ^ 31) (kt : a ≠ 0 → zV G E cn tgt lv st M Q) (kf : a = 0 → zV G E cn pc' lv st M Q) : zV G E cn pc lv (.int (nI a) :: st) M Q := by
  have e : nI a = 0 ↔ a = 0 := nI_eq ha (by decide : (0 : Nat) < 2 ^ 31)
  exact zV_if_ne hd ht hp (fun z => kt (fun q => z (e.mpr q))) (fun z => kf (e.mp z))
theorem zN_if_gt {a : Nat} (hd : decode E.2.1 pc = .ok (.ifCond .gt off, 3)) (ht : (pc : Int) + off = (tgt : Int)) (hp : pc + 3 = pc') (ha : a < 2 ^ 31) (kt : 0 < a → zV G E cn tgt lv st M Q) (kf : a = 0 → zV G E cn pc' lv st M Q) : zV G E cn pc lv (.int (nI a) :: st) M Q := by
  have e : nI a = 0 ↔ a = 0 := nI_eq ha (by decide : (0 : Nat) < 2 ^ 31)
  have g : (0 : Int32) < nI a ↔ 0 < a := nI_ltI (by decide : (0 : Nat) < 2 ^ 31) ha
  exact zV_if_gt hd ht hp (fun z => kt (g.mp z)) (fun z => kf (Nat.eq_zero_of_not_pos (fun q => z (g.mpr q))))
theorem zN_if_le {a : Nat} (hd : decode E.2.1 pc = .ok (.ifCond .le off, 3)) (ht : (pc : Int) + off = (tgt : Int)) (hp : pc + 3 = pc') (ha : a < 2 ^ 31) (kt : a = 0 → zV G E cn tgt lv st M Q) (kf : 0 < a → zV G E cn pc' lv st M Q) : zV G E cn pc lv (.int (nI a) :: st) M Q := by
  have e : nI a = 0 ↔ a = 0 := nI_eq ha (by decide : (0 : Nat) < 2 ^ 31)
  have g : nI a ≤ (0 : Int32) ↔ a ≤ 0 := nI_leI ha (by decide : (0 : Nat) < 2 ^ 31)
  exact zV_if_le hd ht hp (fun z => kt (Nat.le_zero.mp (g.mp z))) (fun z => kf (Nat.pos_of_ne_zero (fun q => z (g.mpr (Nat.le_zero.mpr q)))))
theorem zN_if_lt {a : Nat} (hd : decode E.2.1 pc = .ok (.ifCond .lt off, 3)) (hp : pc + 3 = pc') (ha : a < 2 ^ 31) (ht : (pc : Int) + off = (tgt : Int)) (k : zV G E cn pc' lv st M Q) : zV G E cn pc lv (.int (nI a) :: st) M Q :=
  zV_if_lt hd ht hp (fun z => absurd z (nI_pos ha)) (fun _ => k)
theorem zN_if_ge {a : Nat} (hd : decode E.2.1 pc = .ok (.ifCond .ge off, 3)) (hp : pc + 3 = pc') (ha : a < 2 ^ 31) (ht : (pc : Int) + off = (tgt : Int)) (k : zV G E cn tgt lv st M Q) : zV G E cn pc lv (.int (nI a) :: st) M Q :=
  zV_if_ge hd ht hp (fun _ => k) (fun z => absurd (nI_pos' ha) z)
theorem zB_if_eq {p : Prop} [Decidable p] (hd : decode E.2.1 pc = .ok (.ifCond .eq off, 3)) (ht : (pc : Int) + off = (tgt : Int)) (hp : pc + 3 = pc') (kt : ¬ p → zV G E cn tgt lv st M Q) (kf : p → zV G E cn pc' lv st M Q) : zV G E cn pc lv (.int (b2 p) :: st) M Q :=
  zV_if_eq hd ht hp (fun z => kt (b2_eq0.mp z)) (fun z => kf (Decidable.not_not.mp (fun h => z (b2_eq0.mpr h))))
theorem zB_if_ne {p : Prop} [Decidable p] (hd : decode E.2.1 pc = .ok (.ifCond .ne off, 3)) (ht : (pc : Int) + off = (tgt : Int)) (hp : pc + 3 = pc') (kt : p → zV G E cn tgt lv st M Q) (kf : ¬ p → zV G E cn pc' lv st M Q) : zV G E cn pc lv (.int (b2 p) :: st) M Q :=
  zV_if_ne hd ht hp (fun z => kt (Decidable.not_not.mp (fun h => z (b2_eq0.mpr h)))) (fun z => kf (b2_eq0.mp z))
theorem zV_getI {q idx ci n : Nat} (k : Nat) {fin : Bool} {x : Int32} (hd : decode E.2.1 pc = .ok (.getfield idx, 3)) (hp : pc + 3 = pc') (hf : g_fl E.1 idx ci k fin) (hs : sh[q]? = some (0, ci, n)) (hn : k < n) (hr : g_fr ci k = false) (hv : I q k = x) (kk : zV G E cn pc' lv (.int x :: st) (sh, I, J, R) Q) : zV G E cn pc lv (.ref q :: st) (sh, I, J, R) Q := by
  subst hv
  exact zV_geti k hd hp hf hs hn hr kk
theorem zV_getrX {q q' idx ci n : Nat} (k : Nat) (hd : decode E.2.1 pc = .ok (.getfield idx, 3)) (hp : pc + 3 = pc') (hf : ∃ r : vw_C, vwCl[ci]? = some r ∧ k < r.2.2 ∧ Cond.fieldLink E.1 idx (r.2.1 k).1 (r.2.1 k).2.1 (r.2.1 k).2.2.1 ∈ tG) (hs : sh[q]? = some (0, ci, n)) (hn : k < n) (hr : g_fr ci k = true) (hv : R q k = some q') (kk : zV G E cn pc' lv (.ref q' :: st) (sh, I, J, R) Q) : zV G E cn pc lv (.ref q :: st) (sh, I, J, R) Q := by
  subst hp
  intro p l e s m args below meth c H locs Z ls C hH hS hl h1 h2 hR
  obtain ⟨⟨C0, T0, N0⟩, hc, hk, hw⟩ := hf
  refine va_get (C := C0) (T := T0) (N := N0) (D := G.2.2.1) (v := .ref (g_ad G q')) C.1 C.2.1 C.2.2.2.2.2.2.1 (g_cls hc).1 C.2.2.2.1 C.2.2.2.2.2.2.2.1 hH.2.2 q (g_ws_o hs) hc k hk (C.2.2.2.2.2.2.1 _ hw) (fun _ h => h) ?_ hd (kk p l e s m args below meth c H locs Z ls C hH hS hl h1 h2 hR)
  rw [g_fs_at hn, g_fv, hr]
  simp [hv, va_rf]
theorem zV_iald {q n : Nat} {i x : Int32} (j : Nat) (hd : decode E.2.1 pc = .ok (.iaload, 1)) (hp : pc + 1 = pc') (hs : sh[q]? = some (1, 0, n)) (hi : i = nI j) (hj : j < n) (hN : n ≤ 100000) (hv : I q j = x) (kk : zV G E cn pc' lv (.int x :: st) (sh, I, J, R) Q) : zV G E cn pc lv (.int i :: .ref q :: st) (sh, I, J, R) Q := by
  subst hv
  exact zV_iaload j hd hp hs hi hj hN kk
/-- a counted loop -/
theorem z_for (P : Nat → Prop) (N : Nat) (hx : P N) (hs : ∀ c, c < N → P (c + 1) → P c) : ∀ c, c ≤ N → P c := by
  intro c hc
  obtain ⟨d, rfl⟩ := Nat.exists_eq_add_of_le hc
  induction d generalizing c with
  | zero => exact hx
  | succ d ih =>
    refine hs c (by omega) ?_
    have e : c + (d + 1) = c + 1 + d := by omega
    rw [e] at hx hs
    exact ih (c + 1) hx hs (by omega)
theorem zN_tbl {a lo' hi' len td : Nat} {dflt lo hi : Int} {offs : Array Int} (hd : decode E.2.1 pc = .ok (.tableswitch dflt lo hi offs, len)) (hlo : lo = (lo' : Int)) (hhi : hi = (hi' : Int)) (ha : a < 2 ^ 31) (ht : (pc : Int) + dflt = (td : Int)) (ko : (a < lo' ∨ hi' < a) → zV G E cn td lv st M Q) (ki : ∀ i, lo' ≤ i → i ≤ hi' → a = i → ∃ (off : Int) (tgt : Nat), offs[i - lo']? = some off ∧ (pc : Int) + off = (tgt : Int) ∧ zV G E cn tgt lv st M Q) : zV G E cn pc lv (.int (nI a) :: st) M Q := by
  subst hlo hhi
  have e : (nI a).toInt = (a : Int) := nI_toInt ha
  by_cases h : a < lo' ∨ hi' < a
  · exact zV_tableOut hd (by rw [e]; omega) ht (ko h)
  · obtain ⟨off, tgt, h1, h2, h3⟩ := ki a (by omega) (by omega) rfl
    refine zV_tableIn hd (by rw [e]; omega) (by rw [e]; omega) (off := off) ?_ h2 h3
    rw [e, show ((a : Int) - (lo' : Int)).toNat = a - lo' by omega]
    exact h1
/-- the same over any int -/
theorem zX_tbl {lo' hi' len td : Nat} {x : Int32} {dflt lo hi : Int} {offs : Array Int} (hd : decode E.2.1 pc = .ok (.tableswitch dflt lo hi offs, len)) (hlo : lo = (lo' : Int)) (hhi : hi = (hi' : Int)) (hh : hi' < 2 ^ 31) (ht : (pc : Int) + dflt = (td : Int)) (ko : (∀ i, lo' ≤ i → i ≤ hi' → x ≠ nI i) → zV G E cn td lv st M Q) (ki : ∀ i, lo' ≤ i → i ≤ hi' → x = nI i → ∃ (off : Int) (tgt : Nat), offs[i - lo']? = some off ∧ (pc : Int) + off = (tgt : Int) ∧ zV G E cn tgt lv st M Q) : zV G E cn pc lv (.int x :: st) M Q := by
  subst hlo hhi
  by_cases h : x.toInt < (lo' : Int) ∨ (hi' : Int) < x.toInt
  · refine zV_tableOut hd h ht (ko (fun i h1 h2 e => ?_))
    subst e
    rw [nI_toInt (by omega)] at h
    omega
  · have hx : ¬ x < 0 := fun z => by
      have := Int32.lt_iff_toInt_lt.mp z
      rw [show (0 : Int32).toInt = 0 from rfl] at this
      omega
    obtain ⟨j, hj, rfl⟩ := nI_of hx
    rw [nI_toInt hj] at h
    refine zN_tbl hd rfl rfl hj ht (fun z => by omega) (fun i h1 h2 e => ?_)
    subst e
    exact ki j h1 h2 rfl
end ZB
