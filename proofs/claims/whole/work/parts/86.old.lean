/-! THE ENTRY: the old cells -/
def en_k (i : Nat) : Nat := [123, 111, 113, 115, 117, 119, 121, 56, 90, 78, 85].getD i 0
def en_tm (i : Nat) : Term := Term.string "TurningCoins$Reader" (en_k i)
abbrev en_gv : List Cond := flatC (Jvm.Cond.and given_1 narrow_1)
theorem en_ex : ∀ i : Nat, i < 11 → Cond.exactly (en_tm i) "java/lang/String" ∈ en_gv := by decide +kernel
theorem en_co : ∀ i : Nat, i < 11 → Cond.eq (.field (en_tm i) "java/lang/String" "coder" "B") (.int 0) ∈ en_gv := by decide +kernel
theorem en_ar : ∀ i : Nat, i < 11 → Cond.arrayOf (.field (en_tm i) "java/lang/String" "value" "[B") .byte ∈ en_gv := by decide +kernel
theorem en_le : ∀ i : Nat, i < 11 → Cond.eq (.length (.field (en_tm i) "java/lang/String" "value" "[B")) (.int (Int32.ofNat (g_len.getD i 0))) ∈ en_gv := by decide +kernel
theorem en_el : ∀ i : Nat, i < 11 → ∀ j : Nat, j < g_len.getD i 0 → Cond.eq (.elem (.field (en_tm i) "java/lang/String" "value" "[B") (.int (Int32.ofNat j))) (.int ((g_byt.getD i []).getD j 0)) ∈ en_gv := by decide +kernel
def en_ps : List (Nat × Nat × Nat) := [(1, 2, 53), (1, 3, 64), (2, 3, 65), (1, 4, 75), (2, 4, 76), (3, 4, 77), (1, 5, 86), (2, 5, 87), (3, 5, 88), (4, 5, 89), (1, 6, 101), (2, 6, 102), (3, 6, 103), (4, 6, 104), (5, 6, 105), (1, 0, 114), (2, 0, 115), (3, 0, 116), (4, 0, 117), (5, 0, 118), (6, 0, 119), (1, 9, 126), (2, 9, 127), (3, 9, 128), (4, 9, 129), (5, 9, 130), (6, 9, 131), (0, 9, 132), (1, 10, 141), (2, 10, 142), (3, 10, 143), (4, 10, 144), (5, 10, 145), (6, 10, 146), (0, 10, 147), (9, 10, 148), (1, 7, 156), (2, 7, 157), (3, 7, 158), (4, 7, 159), (5, 7, 160), (6, 7, 161), (0, 7, 162), (9, 7, 163), (10, 7, 164), (1, 8, 171), (2, 8, 172), (3, 8, 173), (4, 8, 174), (5, 8, 175), (6, 8, 176), (0, 8, 177), (9, 8, 178), (10, 8, 179), (7, 8, 180)]
theorem en_pn : ∀ q ∈ en_ps, en_gv[q.2.2]? = some (Cond.not (Cond.eq (en_tm q.1) (en_tm q.2.1))) := by decide +kernel
theorem en_pq : ∀ i : Nat, i < 11 → ∀ j : Nat, j < 11 → i ≠ j → (∃ q ∈ en_ps, q.1 = i ∧ q.2.1 = j) ∨ (∃ q ∈ en_ps, q.1 = j ∧ q.2.1 = i) := by decide +kernel
theorem en_ne (i : Nat) (hi : i < 11) (j : Nat) (hj : j < 11) (hij : i ≠ j) : Cond.not (Cond.eq (en_tm i) (en_tm j)) ∈ en_gv ∨ Cond.not (Cond.eq (en_tm j) (en_tm i)) ∈ en_gv := by
  rcases en_pq i hi j hj hij with ⟨q, hq, rfl, rfl⟩ | ⟨q, hq, rfl, rfl⟩
  · exact Or.inl (List.mem_of_getElem? (en_pn q hq))
  · exact Or.inr (List.mem_of_getElem? (en_pn q hq))
theorem en_lit : ∀ q ∈ g_lits, q.2.2.2 < 11 ∧ (Term.string q.1 q.2.1 = en_tm q.2.2.2 ∨ Cond.eq (en_tm q.2.2.2) (Term.string q.1 q.2.1) ∈ en_gv ∨ Cond.eq (Term.string q.1 q.2.1) (en_tm q.2.2.2) ∈ en_gv) := by decide +kernel
theorem en_ref : ∀ q ∈ g_lits, Cond.stringRef q.1 q.2.1 q.2.2.1 ∈ lw_tbl := by decide +kernel
theorem en_str {args : Array Value} {s : State} {A : Nat → Prop} (hgv : (Jvm.Cond.and given_1 narrow_1).before args s = true) (hA : ∀ a : Nat, a < s.heap.size → ¬ A a) : ∃ adK adV : Nat → Nat, vk_S 11 g_len g_byt adK adV A s s.heap ∧ ∀ q ∈ g_lits, (Term.string q.1 q.2.1).eval args s none [] s = some (.ref (adK q.2.2.2)) := by
  have hs := flat_of_before _ hgv
  obtain ⟨adK, adV, h1, h2⟩ := vk_Sof (args := args) (s := s) (N := 11) (tm := en_tm) (len := g_len) (byt := g_byt) (A := A) (by decide) (fun i hi => hs _ (en_ex i hi)) (fun i hi => hs _ (en_co i hi)) (fun i hi => hs _ (en_ar i hi)) (fun i hi => hs _ (en_le i hi)) (fun i hi j hj => hs _ (en_el i hi j hj)) (fun i j hi hj hij => (en_ne i hi j hj hij).imp (hs _) (hs _)) hA
  refine ⟨adK, adV, h1, fun q hq => ?_⟩
  obtain ⟨h11, h⟩ := en_lit q hq
  rcases h with h | h | h
  · rw [h]; exact h2 _ h11
  · exact va_eqR (hs _ h) (h2 _ h11)
  · exact va_eqv (hs _ h) (h2 _ h11)
theorem en_nest : ∀ q ∈ g_nest, q ∈ lw_tbl ∧ q.onTables = true := by decide +kernel
theorem en_ao : ∀ C ∈ ["TurningCoins$Coin", "TurningCoins$Sheet", "java/lang/String"], Cond.arrayOver (.object C) ∈ lw_tbl := by decide +kernel
theorem en_ab : ∀ j : Nat, j < 7 → Cond.eq (.elem (.static "TurningCoins" "ABOVE" "[I") (.int (Int32.ofNat j))) (.int (g_above j)) ∈ en_gv := by decide +kernel
def en_ad (adK adV : Nat → Nat) (tA b tF : Nat) (i : Nat) : Nat := if i < 100 then adK i else if i < 200 then adV (i - 100) else if i = 300 then tA else if i = 301 then b else tF
theorem en_Old {args : Array Value} {s : State} {b L : Nat} {xs : Nat → Int32} {D : va_G} {F : Nat → ClassId} (hL : L ≤ 3072) (hgv : (Jvm.Cond.and given_1 narrow_1).before args s = true) (hts : ∀ w ∈ lw_tbl, w.before args s = true) (hX : va_X b L xs s s.heap) (hbl : b < s.heap.size) : ∃ ad : Nat → Nat, ad 301 = b ∧ g_Old (s.heap.size, ad, D, F, L, xs) s := by
  have hs := flat_of_before _ hgv
  have hA : ∀ a : Nat, a < s.heap.size → ¬ s.heap.size ≤ a := fun a h => Nat.not_le.mpr h
  obtain ⟨adK, adV, hS, hR⟩ := en_str (A := fun q => s.heap.size ≤ q) hgv hA
  obtain ⟨tA, hA1, hA2⟩ := va_Tof (args := args) (s := s) (tm := .static "TurningCoins" "ABOVE" "[I") (ty := .int) (N := 7) (f := fun j => .int (g_above j)) (A := fun q => s.heap.size ≤ q) (by decide) (hs _ (by decide +kernel)) (va_eqt (hs (Cond.eq (.length (.static "TurningCoins" "ABOVE" "[I")) (.int 7)) (by decide +kernel))) (fun j hj => va_eqt (hs _ (en_ab j hj))) hA
  have hZ := va_Zref (A := fun q => s.heap.size ≤ q) (hts (.laysStatic "TurningCoins" "ABOVE" "[I") (by decide +kernel)) (hts (.initialized "TurningCoins") (by decide +kernel)) hA1 hA
  have hC := va_Zof (A := fun q => s.heap.size ≤ q) (hts (.laysStatic "java/lang/String" "COMPACT_STRINGS" "Z") (by decide +kernel)) (hts (.initialized "java/lang/String") (by decide +kernel)) (va_eqt (hs (Cond.eq (.static "java/lang/String" "COMPACT_STRINGS" "Z") (.int 1)) (by decide +kernel))) hA
  have hF := va_Zqof (A := fun q => s.heap.size ≤ q) (hts (.laysStatic "jdk/internal/util/Preconditions" "SIOOBE_FORMATTER" "Ljava/util/function/BiFunction;") (by decide +kernel)) (hts (.initialized "jdk/internal/util/Preconditions") (by decide +kernel)) (hs (Cond.isRef (.static "jdk/internal/util/Preconditions" "SIOOBE_FORMATTER" "Ljava/util/function/BiFunction;")) (by decide +kernel)) hA
  obtain ⟨tF, hF⟩ : ∃ tF : Nat, va_Z "jdk/internal/util/Preconditions" "SIOOBE_FORMATTER" "Ljava/util/function/BiFunction;" .null (fun q => s.heap.size ≤ q) s s.heap ∨ va_Z "jdk/internal/util/Preconditions" "SIOOBE_FORMATTER" "Ljava/util/function/BiFunction;" (.ref tF) (fun q => s.heap.size ≤ q) s s.heap := by
    rcases hF with h | ⟨t, h⟩
    · exact ⟨0, Or.inl h⟩
    · exact ⟨t, Or.inr h⟩
  have e1 : ∀ i, i < 11 → en_ad adK adV tA b tF i = adK i := fun i hi => if_pos (by omega)
  have e2 : ∀ i, i < 11 → en_ad adK adV tA b tF (100 + i) = adV i := fun i hi => by
    unfold en_ad
    rw [if_neg (by omega), if_pos (by omega), show 100 + i - 100 = i by omega]
  obtain ⟨scr, x1, x2, x3, x4, x5⟩ := hX
  refine ⟨en_ad adK adV tA b tF, rfl, ⟨fun i hi => ?_, fun i j hi hj e => ?_⟩, fun q hq => ?_, hZ, hA2, hC, ⟨scr, x1, x2, x3, Nat.le_of_eq x4.symm, by rw [x4], x5, Nat.not_le.mpr hbl⟩, ⟨fun q hq => va_Nw.of (en_nest q hq).2 (hts _ (en_nest q hq).1), fun C hC => va_AO.of (hts _ (en_ao C hC)), hts (.arrayOver (.array .long)) (by decide +kernel), hF⟩⟩
  · show va_O "java/lang/String" (en_ad adK adV tA b tF i) _ _ _ ∧ va_OF _ _ _ _ (en_ad adK adV tA b tF i) _ _ _ ∧ va_OF _ _ _ (.ref (en_ad adK adV tA b tF (100 + i))) (en_ad adK adV tA b tF i) _ _ _ ∧ va_T _ (en_ad adK adV tA b tF (100 + i)) _ _ _ _ _
    rw [e1 i hi, e2 i hi]
    exact hS.1 i hi
  · have e : en_ad adK adV tA b tF i = en_ad adK adV tA b tF j := e
    rw [e1 i hi, e1 j hj] at e
    exact hS.2 i j hi hj e
  · have h := vk_R.of (hts _ (en_ref q hq)) (hR q hq)
    rw [← e1 _ (en_lit q hq).1] at h
    exact h
