/-! THE JUDGEMENT, and a rule an instruction -/
def g_str : List String := ["coin", "heavy", "edged", "forged", "twice", "worn", "foreign", "pay", "to", "in", "ship"]
def g_len : List Nat := [4, 5, 5, 6, 5, 4, 7, 3, 2, 2, 4]
def g_byt : List (List Int32) := [[99, 111, 105, 110], [104, 101, 97, 118, 121], [101, 100, 103, 101, 100], [102, 111, 114, 103, 101, 100], [116, 119, 105, 99, 101], [119, 111, 114, 110], [102, 111, 114, 101, 105, 103, 110], [112, 97, 121], [116, 111], [105, 110], [115, 104, 105, 112]]
def g_lits : List (String × Nat × String × Nat) := [("TurningCoins$Reader", 111, "heavy", 1), ("TurningCoins$Reader", 113, "edged", 2), ("TurningCoins$Reader", 115, "forged", 3), ("TurningCoins$Reader", 117, "twice", 4), ("TurningCoins$Reader", 119, "worn", 5), ("TurningCoins$Reader", 121, "foreign", 6), ("TurningCoins$Reader", 123, "coin", 0), ("TurningCoins$Reader", 78, "in", 9), ("TurningCoins$Reader", 85, "ship", 10), ("TurningCoins$Reader", 56, "pay", 7), ("TurningCoins$Reader", 90, "to", 8), ("TurningCoinsModel", 31, "coin", 0), ("TurningCoinsModel", 33, "heavy", 1), ("TurningCoinsModel", 35, "edged", 2), ("TurningCoinsModel", 37, "forged", 3), ("TurningCoinsModel", 39, "twice", 4), ("TurningCoinsModel", 41, "worn", 5), ("TurningCoinsModel", 43, "foreign", 6), ("TurningCoinsModel", 290, "in", 9), ("TurningCoinsModel", 292, "ship", 10), ("TurningCoinsModel", 276, "pay", 7), ("TurningCoinsModel", 284, "to", 8)]
def g_nest : List Cond := [(Jvm.Cond.methodLinkNest "TurningCoins$Land" (31 : Nat) ({ cls := "TurningCoins$Coin", name := "<init>", desc := "()V" } : Jvm.MethodName) "TurningCoins"), (Jvm.Cond.methodLinkNest "TurningCoins" (36 : Nat) ({ cls := "TurningCoins$Reader", name := "<init>", desc := "()V" } : Jvm.MethodName) "TurningCoins"), (Jvm.Cond.methodLinkNest "TurningCoins" (49 : Nat) ({ cls := "TurningCoins$Reach", name := "<init>", desc := "()V" } : Jvm.MethodName) "TurningCoins"), (Jvm.Cond.methodLinkNest "TurningCoins" (56 : Nat) ({ cls := "TurningCoins$Trades", name := "<init>", desc := "()V" } : Jvm.MethodName) "TurningCoins"), (Jvm.Cond.methodLinkNest "TurningCoins" (64 : Nat) ({ cls := "TurningCoins$Sheet", name := "<init>", desc := "()V" } : Jvm.MethodName) "TurningCoins"), (Jvm.Cond.methodLinkNest "TurningCoins$Land" (70 : Nat) ({ cls := "TurningCoins", name := "holds", desc := "(II)Z" } : Jvm.MethodName) "TurningCoins"), (Jvm.Cond.methodLinkNest "TurningCoins$Reach" (52 : Nat) ({ cls := "TurningCoins", name := "holds", desc := "(II)Z" } : Jvm.MethodName) "TurningCoins"), (Jvm.Cond.methodLinkNest "TurningCoins$Reach" (70 : Nat) ({ cls := "TurningCoins", name := "isWithin", desc := "(II)Z" } : Jvm.MethodName) "TurningCoins"), (Jvm.Cond.methodLinkNest "TurningCoins$Trades" (114 : Nat) ({ cls := "TurningCoins", name := "holds", desc := "(II)Z" } : Jvm.MethodName) "TurningCoins"), (Jvm.Cond.fieldLinkNest "TurningCoins$Coin" (50 : Nat) "TurningCoins" "ABOVE" "[I" "TurningCoins")]
def g_above (j : Nat) : Int32 := match j with
  | 0 => -1
  | 1 => 0
  | 2 => 0
  | 3 => 2
  | 4 => 1
  | 5 => 0
  | _ => 5
def va_AOA (ty : FieldType) (U : State) : Prop := (Cond.arrayOver (.array ty)).before #[] U = true
theorem va_AOA.moved {ty : FieldType} {u U : State} (hvm : u.vm.Alike U.vm) (h : va_AOA ty u) : va_AOA ty U := Jvm.Stand.arrayOver_alikeB hvm h
theorem va_AOA.use {ty : FieldType} {A : Array Value} {U : State} (h : va_AOA ty U) : (Cond.arrayOver (.array ty)).before A U = true := h
/-- the old cells: Strings, the table ABOVE, COMPACT_STRINGS, the script; links of nest mates -/
def g_Old (G : mG) (U : State) : Prop :=
  vk_S 11 g_len g_byt (fun i => G.2.1 i) (fun i => G.2.1 (100 + i)) (g_A G) U U.heap
  ∧ (∀ q ∈ g_lits, vk_R q.1 q.2.1 q.2.2.1 (G.2.1 q.2.2.2) U)
  ∧ va_Z "TurningCoins" "ABOVE" "[I" (.ref (G.2.1 300)) (g_A G) U U.heap
  ∧ va_T .int (G.2.1 300) 7 (fun j => .int (g_above j)) (g_A G) U U.heap
  ∧ va_Z "java/lang/String" "COMPACT_STRINGS" "Z" (.int 1) (g_A G) U U.heap
  ∧ va_T .int (G.2.1 301) G.2.2.2.2.1 (fun j => .int (G.2.2.2.2.2 j)) (g_A G) U U.heap
  ∧ ((∀ q ∈ g_nest, va_Nw q U) ∧ (∀ C ∈ ["TurningCoins$Coin", "TurningCoins$Sheet", "java/lang/String"], va_AO C U) ∧ va_AOA .long U ∧ (va_Z "jdk/internal/util/Preconditions" "SIOOBE_FORMATTER" "Ljava/util/function/BiFunction;" .null (g_A G) U U.heap ∨ va_Z "jdk/internal/util/Preconditions" "SIOOBE_FORMATTER" "Ljava/util/function/BiFunction;" (.ref (G.2.1 302)) (g_A G) U U.heap))
theorem g_nest_warm {s U : State} (hW : s.WarmedH U.vm) (h : ∀ q ∈ g_nest, va_Nw q s) : ∀ q ∈ g_nest, va_Nw q U := by
  intro q hq
  have h1 := h q hq
  simp only [g_nest, List.mem_cons, List.not_mem_nil, or_false] at hq
  rcases hq with rfl | rfl | rfl | rfl | rfl | rfl | rfl | rfl | rfl | rfl <;> first | exact va_Nw.warmM hW h1 | exact va_Nw.warmF hW h1
theorem g_Old.move {G : mG} {s U : State} {H : Heap} {locs : List Loc} (h : g_Old G s) (hS : va_S (g_A G) s.heap H locs) (hU : U.heap = H) (hW : s.WarmedH U.vm) : g_Old G U := by
  obtain ⟨h1, h2, h3, h4, h5, h6, h7⟩ := h
  have kp := hS.2.1
  subst hU
  exact ⟨(h1.moved hW.alike).kept kp, fun q hq => (h2 q hq).warm hW, (h3.moved hW.alike).kept kp, (h4.moved hW.alike).kept kp, (h5.moved hW.alike).kept kp, (h6.moved hW.alike).kept kp, ⟨g_nest_warm hW h7.1, fun C hC => (h7.2.1 C hC).moved hW.alike, h7.2.2.1.moved hW.alike, h7.2.2.2.imp (fun h => (h.moved hW.alike).kept kp) (fun h => (h.moved hW.alike).kept kp)⟩⟩
def g_S (G : mG) (M : mM) (U : State) : Prop := g_H G M U.heap ∧ va_K G.2.2.1 vwCl (g_tys G) U ∧ g_Old G U
/-- a method's surroundings: its class, bytes, locals, result, room, whether it is a constructor -/
abbrev mE : Type := String × ByteArray × Nat × Option FieldType × Room × Bool
def g_C (G : mG) (E : mE) (p : Program) (s : State) (m : MethodId) (args : Array Value) (meth : Method) (c : Code) : Prop :=
  p.tables.exec = Jvm.exec ∧ c.code = E.2.1 ∧ c.maxLocals = E.2.2.1 ∧ s.vm.findClass E.1 = some m.cls ∧ meth.sig.returnType = E.2.2.2.1 ∧ meth.locks = false ∧ (∀ w ∈ tG, w.before args s = true) ∧ va_K G.2.2.1 vwCl (g_tys G) s ∧ g_Old G s ∧ G.1 ≤ s.heap.size ∧ (E.2.2.2.2.2 = true → meth.name = "<init>")
def g_rt (E : mE) (r : Option Value) (pc : Nat) : Prop := match r with
  | none => E.2.2.2.1 = none ∧ decode E.2.1 pc = .ok (.return_, 1)
  | some (.int v) => ∃ ty, E.2.2.2.1 = some ty ∧ narrow ty (.int v) = .int v ∧ decode E.2.1 pc = .ok (.ireturn, 1)
  | some (.long _) => E.2.2.2.1 = some .long ∧ decode E.2.1 pc = .ok (.lreturn, 1)
  | some (.ref _) => (∃ n, E.2.2.2.1 = some (.object n)) ∧ decode E.2.1 pc = .ok (.areturn, 1)
  | _ => False
def g_lv (G : mG) (lv : List (Nat × Value)) : List (Nat × Value) := lv.map (fun q => (q.1, g_tv G q.2))
def g_R (G : mG) (E : mE) (p : Program) (l : Launch) (e : Env) (s : State) (m : MethodId) (args : Array Value) (below : List Frame) (meth : Method) (c : Code) (Z : State → Prop) (Q : Option Value → mM → Prop) : Prop :=
  ∀ (r : Option Value) (M : mM) (H : Heap) (locs : List Loc) (cn : Nat × Nat) (pc : Nat) (ls : Array Slot), Q r M → g_H G M H → va_S (g_A G) s.heap H locs → cn.1 ≤ E.2.2.2.2.1.cells → cn.2 ≤ E.2.2.2.2.1.slots → g_rt E r pc → W p l e E.2.2.2.2.1 s m args below meth c H locs cn.1 cn.2 Z (F0 m pc ls (r.map (g_tv G)).toList)
def g_T (G : mG) (M : mM) (s : State) (H : Heap) (locs : List Loc) (cn : Nat × Nat) : Prop := va_S (g_A G) s.heap H locs ∧ s.heap.size + cn.1 ≤ G.1 + M.1.length
def zV (G : mG) (E : mE) (cn : Nat × Nat) (pc : Nat) (lv : List (Nat × Value)) (st : List Value) (M : mM) (Q : Option Value → mM → Prop) : Prop :=
  ∀ (p : Program) (l : Launch) (e : Env) (s : State) (m : MethodId) (args : Array Value) (below : List Frame) (meth : Method) (c : Code) (H : Heap) (locs : List Loc) (Z : State → Prop) (ls : Array Slot), g_C G E p s m args meth c → g_H G M H → g_T G M s H locs cn → lv_has ls E.2.2.1 (g_lv G lv) → cn.1 ≤ E.2.2.2.2.1.cells → cn.2 ≤ E.2.2.2.2.1.slots → g_R G E p l e s m args below meth c Z Q →
    W p l e E.2.2.2.2.1 s m args below meth c H locs cn.1 cn.2 Z (F0 m pc ls (st.map (g_tv G)))
theorem g_cat (G : mG) (v : Value) : (g_tv G v).category = v.category := by cases v <;> rfl
theorem g_lv_at {G : mG} {lv : List (Nat × Value)} {k i : Nat} {v : Value} (h : lv[k]? = some (i, v)) : (g_lv G lv)[k]? = some (i, g_tv G v) := by
  unfold g_lv
  rw [List.getElem?_map, h]
  rfl
/-- locals: a value put in order -/
def l_ins (q : Nat × Value) : List (Nat × Value) → List (Nat × Value)
  | [] => [q]
  | a :: l => if q.1 < a.1 then q :: a :: l else a :: l_ins q l
theorem l_ins_mem {q x : Nat × Value} : ∀ {l : List (Nat × Value)}, x ∈ l_ins q l → x = q ∨ x ∈ l := by
  intro l
  induction l with
  | nil => intro h; simp [l_ins] at h; exact Or.inl h
  | cons a l ih =>
    intro h
    unfold l_ins at h
    split at h
    · rcases List.mem_cons.mp h with h | h
      · exact Or.inl h
      · exact Or.inr h
    · rcases List.mem_cons.mp h with h | h
      · exact Or.inr (List.mem_cons.mpr (Or.inl h))
      · rcases ih h with h | h
        · exact Or.inl h
        · exact Or.inr (List.mem_cons_of_mem _ h)
def l_set1 (lv : List (Nat × Value)) (i : Nat) (v : Value) : List (Nat × Value) := l_ins (i, v) (lv.filter (fun q => !(q.1 == i) && !(q.1 + 1 == i && q.2.category == 2)))
def l_set2 (lv : List (Nat × Value)) (i : Nat) (v : Value) : List (Nat × Value) := l_ins (i, v) (lv.filter (fun q => !(q.1 == i) && (!(q.1 == i + 1) && !(q.1 + 1 == i && q.2.category == 2))))
theorem l_filter {G : mG} {f : Nat × Value → Bool} (hf : ∀ q : Nat × Value, f (q.1, g_tv G q.2) = f q) (lv : List (Nat × Value)) : (g_lv G lv).filter f = g_lv G (lv.filter f) := by
  unfold g_lv
  rw [List.filter_map]
  congr 1
  apply List.filter_congr
  intro q _
  exact hf q
theorem l_has1 {G : mG} {ls : Array Slot} {nL i : Nat} {v : Value} {lv lv' : List (Nat × Value)} (h : lv_has ls nL ((i, g_tv G v) :: (g_lv G lv).filter (fun q => !(q.1 == i) && !(q.1 + 1 == i && q.2.category == 2)))) (e : l_set1 lv i v = lv') : lv_has ls nL (g_lv G lv') := by
  refine ⟨h.1, h.2.1, fun q hq => ?_⟩
  obtain ⟨x, hx, rfl⟩ := List.mem_map.mp hq
  subst e
  rw [l_filter (fun q => by simp only [g_cat])] at h
  rcases l_ins_mem hx with rfl | hx
  · exact h.2.2 _ List.mem_cons_self
  · exact h.2.2 _ (List.mem_cons_of_mem _ (List.mem_map.mpr ⟨x, hx, rfl⟩))
theorem l_has2 {G : mG} {ls : Array Slot} {nL i : Nat} {v : Value} {lv lv' : List (Nat × Value)} (h : lv_has ls nL ((i, g_tv G v) :: (g_lv G lv).filter (fun q => !(q.1 == i) && (!(q.1 == i + 1) && !(q.1 + 1 == i && q.2.category == 2))))) (e : l_set2 lv i v = lv') : lv_has ls nL (g_lv G lv') := by
  refine ⟨h.1, h.2.1, fun q hq => ?_⟩
  obtain ⟨x, hx, rfl⟩ := List.mem_map.mp hq
  subst e
  rw [l_filter (fun q => by simp only [g_cat])] at h
  rcases l_ins_mem hx with rfl | hx
  · exact h.2.2 _ List.mem_cons_self
  · exact h.2.2 _ (List.mem_cons_of_mem _ (List.mem_map.mpr ⟨x, hx, rfl⟩))
section ZR
variable {G : mG} {E : mE} {cn : Nat × Nat} {pc pc' : Nat} {lv lv' : List (Nat × Value)} {st : List Value} {M : mM} {Q : Option Value → mM → Prop}
/-- fewer locals -/
theorem zV_sub (h : ∀ q ∈ lv', q ∈ lv) (k : zV G E cn pc lv' st M Q) : zV G E cn pc lv st M Q :=
  fun p l e s m args below meth c H locs Z ls C hH hS hl h1 h2 hR => k p l e s m args below meth c H locs Z ls C hH hS ⟨hl.1, hl.2.1, fun q hq => by
    obtain ⟨x, hx, rfl⟩ := List.mem_map.mp hq
    exact hl.2.2 _ (List.mem_map.mpr ⟨x, h x hx, rfl⟩)⟩ h1 h2 hR
theorem zV_mono {Q' : Option Value → mM → Prop} (h : ∀ r M, Q' r M → Q r M) (k : zV G E cn pc lv st M Q') : zV G E cn pc lv st M Q :=
  fun p l e s m args below meth c H locs Z ls C hH hS hl h1 h2 hR => k p l e s m args below meth c H locs Z ls C hH hS hl h1 h2 (fun r M H locs cn pc ls hq => hR r M H locs cn pc ls (h r M hq))
theorem zV_iconst {n : Int} {v : Int32} (hd : decode E.2.1 pc = .ok (.iconst n, 1)) (hp : pc + 1 = pc') (hv : Int32.ofInt n = v) (k : zV G E cn pc' lv (.int v :: st) M Q) : zV G E cn pc lv (st) M Q := by
  subst hp
  intro p l e s m args below meth c H locs Z ls C hH hS hl h1 h2 hR
  exact lv_iconst C.1 C.2.1 hd hv (k p l e s m args below meth c H locs Z ls C hH hS hl h1 h2 hR)
theorem zV_bipush {n : Int} {v : Int32} (hd : decode E.2.1 pc = .ok (.bipush n, 2)) (hp : pc + 2 = pc') (hv : (Int8.ofInt n).toInt32 = v) (k : zV G E cn pc' lv (.int v :: st) M Q) : zV G E cn pc lv (st) M Q := by
  subst hp
  intro p l e s m args below meth c H locs Z ls C hH hS hl h1 h2 hR
  exact lv_bipush C.1 C.2.1 hd hv (k p l e s m args below meth c H locs Z ls C hH hS hl h1 h2 hR)
theorem zV_sipush {n : Int} {v : Int32} (hd : decode E.2.1 pc = .ok (.sipush n, 3)) (hp : pc + 3 = pc') (hv : (Int16.ofInt n).toInt32 = v) (k : zV G E cn pc' lv (.int v :: st) M Q) : zV G E cn pc lv (st) M Q := by
  subst hp
  intro p l e s m args below meth c H locs Z ls C hH hS hl h1 h2 hR
  exact lv_sipush C.1 C.2.1 hd hv (k p l e s m args below meth c H locs Z ls C hH hS hl h1 h2 hR)
theorem zV_lconst {n : Fin 2} {v : Int64} (hd : decode E.2.1 pc = .ok (.lconst n, 1)) (hp : pc + 1 = pc') (hv : Int64.ofNat (n : Nat) = v) (k : zV G E cn pc' lv (.long v :: st) M Q) : zV G E cn pc lv (st) M Q := by
  subst hp
  intro p l e s m args below meth c H locs Z ls C hH hS hl h1 h2 hR
  exact lv_lconst C.1 C.2.1 hd hv (k p l e s m args below meth c H locs Z ls C hH hS hl h1 h2 hR)
theorem zV_ldc {index : Nat} {v : Int32} (hd : decode E.2.1 pc = .ok (.ldc index, 2)) (hp : pc + 2 = pc') (hw : Cond.constant E.1 index v ∈ tG) (k : zV G E cn pc' lv (.int v :: st) M Q) : zV G E cn pc lv (st) M Q := by
  subst hp
  intro p l e s m args below meth c H locs Z ls C hH hS hl h1 h2 hR
  exact lv_ldc C.1 C.2.1 C.2.2.2.1 (C.2.2.2.2.2.2.1 _ hw) hd (k p l e s m args below meth c H locs Z ls C hH hS hl h1 h2 hR)
theorem zV_ldcw {index : Nat} {v : Int32} (hd : decode E.2.1 pc = .ok (.ldc_w index, 3)) (hp : pc + 3 = pc') (hw : Cond.constant E.1 index v ∈ tG) (k : zV G E cn pc' lv (.int v :: st) M Q) : zV G E cn pc lv (st) M Q := by
  subst hp
  intro p l e s m args below meth c H locs Z ls C hH hS hl h1 h2 hR
  exact lv_ldcw C.1 C.2.1 C.2.2.2.1 (C.2.2.2.2.2.2.1 _ hw) hd (k p l e s m args below meth c H locs Z ls C hH hS hl h1 h2 hR)
theorem zV_ldc2 {index : Nat} {v : Int64} (hd : decode E.2.1 pc = .ok (.ldc2_w index, 3)) (hp : pc + 3 = pc') (hw : Cond.constantLong E.1 index v ∈ tG) (k : zV G E cn pc' lv (.long v :: st) M Q) : zV G E cn pc lv (st) M Q := by
  subst hp
  intro p l e s m args below meth c H locs Z ls C hH hS hl h1 h2 hR
  exact lv_ldc2 C.1 C.2.1 C.2.2.2.1 (C.2.2.2.2.2.2.1 _ hw) hd (k p l e s m args below meth c H locs Z ls C hH hS hl h1 h2 hR)
theorem zV_ldcS {index i : Nat} {tx : String} (hd : decode E.2.1 pc = .ok (.ldc index, 2)) (hp : pc + 2 = pc') (hw : (E.1, index, tx, i) ∈ g_lits) (k : zV G E cn pc' lv (.ref (1000 + i) :: st) M Q) : zV G E cn pc lv st M Q := by
  subst hp
  intro p l e s m args below meth c H locs Z ls C hH hS hl h1 h2 hR
  have e9 : g_ad G (1000 + i) = G.2.1 i := by rw [g_ad, if_neg (by omega), Nat.add_sub_cancel_left]
  have kk := k p l e s m args below meth c H locs Z ls C hH hS hl h1 h2 hR
  rw [List.map_cons, show g_tv G (.ref (1000 + i)) = .ref (g_ad G (1000 + i)) from rfl, e9] at kk
  exact va_ldcS C.1 C.2.1 C.2.2.2.1 (C.2.2.2.2.2.2.2.2.1.2.1 _ hw) hd kk
theorem zV_iload_n {j : Fin 4} {i : Nat} {x : Int32} (hd : decode E.2.1 pc = .ok (.iload_n j, 1)) (hp : pc + 1 = pc') (n : Nat) (hj : (j : Nat) = i) (hn : lv[n]? = some (i, .int x)) (k : zV G E cn pc' lv (.int x :: st) M Q) : zV G E cn pc lv (st) M Q := by
  subst hp
  intro p l e s m args below meth c H locs Z ls C hH hS hl h1 h2 hR
  exact lv_iload_n C.1 C.2.1 hd hj (lv_at hl n (g_lv_at hn)) (k p l e s m args below meth c H locs Z ls C hH hS hl h1 h2 hR)
theorem zV_iload {i : Nat} {x : Int32} (hd : decode E.2.1 pc = .ok (.iload i, 2)) (hp : pc + 2 = pc') (n : Nat) (hn : lv[n]? = some (i, .int x)) (k : zV G E cn pc' lv (.int x :: st) M Q) : zV G E cn pc lv (st) M Q := by
  subst hp
  intro p l e s m args below meth c H locs Z ls C hH hS hl h1 h2 hR
  exact lv_iload C.1 C.2.1 hd (lv_at hl n (g_lv_at hn)) (k p l e s m args below meth c H locs Z ls C hH hS hl h1 h2 hR)
theorem zV_lload_n {j : Fin 4} {i : Nat} {x : Int64} (hd : decode E.2.1 pc = .ok (.lload_n j, 1)) (hp : pc + 1 = pc') (n : Nat) (hj : (j : Nat) = i) (hn : lv[n]? = some (i, .long x)) (k : zV G E cn pc' lv (.long x :: st) M Q) : zV G E cn pc lv (st) M Q := by
  subst hp
  intro p l e s m args below meth c H locs Z ls C hH hS hl h1 h2 hR
  exact lv_lload_n C.1 C.2.1 hd hj (lv_at hl n (g_lv_at hn)) (k p l e s m args below meth c H locs Z ls C hH hS hl h1 h2 hR)
theorem zV_lload {i : Nat} {x : Int64} (hd : decode E.2.1 pc = .ok (.lload i, 2)) (hp : pc + 2 = pc') (n : Nat) (hn : lv[n]? = some (i, .long x)) (k : zV G E cn pc' lv (.long x :: st) M Q) : zV G E cn pc lv (st) M Q := by
  subst hp
  intro p l e s m args below meth c H locs Z ls C hH hS hl h1 h2 hR
  exact lv_lload C.1 C.2.1 hd (lv_at hl n (g_lv_at hn)) (k p l e s m args below meth c H locs Z ls C hH hS hl h1 h2 hR)
theorem zV_aload_n {j : Fin 4} {i q : Nat} (hd : decode E.2.1 pc = .ok (.aload_n j, 1)) (hp : pc + 1 = pc') (n : Nat) (hj : (j : Nat) = i) (hn : lv[n]? = some (i, .ref q)) (k : zV G E cn pc' lv (.ref q :: st) M Q) : zV G E cn pc lv (st) M Q := by
  subst hp
  intro p l e s m args below meth c H locs Z ls C hH hS hl h1 h2 hR
  exact lv_aload_n (x := g_ad G q) C.1 C.2.1 hd hj (lv_at hl n (g_lv_at hn)) (k p l e s m args below meth c H locs Z ls C hH hS hl h1 h2 hR)
theorem zV_aload {i q : Nat} (hd : decode E.2.1 pc = .ok (.aload i, 2)) (hp : pc + 2 = pc') (n : Nat) (hn : lv[n]? = some (i, .ref q)) (k : zV G E cn pc' lv (.ref q :: st) M Q) : zV G E cn pc lv (st) M Q := by
  subst hp
  intro p l e s m args below meth c H locs Z ls C hH hS hl h1 h2 hR
  exact lv_aload (x := g_ad G q) C.1 C.2.1 hd (lv_at hl n (g_lv_at hn)) (k p l e s m args below meth c H locs Z ls C hH hS hl h1 h2 hR)
theorem zV_istore_n {j : Fin 4} {i : Nat} {x : Int32} (hd : decode E.2.1 pc = .ok (.istore_n j, 1)) (hp : pc + 1 = pc') (hj : (j : Nat) = i) (hi : i < E.2.2.1) (he : l_set1 lv i (.int x) = lv') (k : zV G E cn pc' lv' (st) M Q) : zV G E cn pc lv (.int x :: st) M Q := by
  subst hp
  intro p l e s m args below meth c H locs Z ls C hH hS hl h1 h2 hR
  exact lv_istore_n C.1 C.2.1 hd hj hl hi rfl (fun ls' hl' => k p l e s m args below meth c H locs Z ls' C hH hS (l_has1 hl' he) h1 h2 hR)
theorem zV_istore {i : Nat} {x : Int32} (hd : decode E.2.1 pc = .ok (.istore i, 2)) (hp : pc + 2 = pc') (hi : i < E.2.2.1) (he : l_set1 lv i (.int x) = lv') (k : zV G E cn pc' lv' (st) M Q) : zV G E cn pc lv (.int x :: st) M Q := by
  subst hp
  intro p l e s m args below meth c H locs Z ls C hH hS hl h1 h2 hR
  exact lv_istore C.1 C.2.1 hd hl hi rfl (fun ls' hl' => k p l e s m args below meth c H locs Z ls' C hH hS (l_has1 hl' he) h1 h2 hR)
theorem zV_lstore_n {j : Fin 4} {i : Nat} {x : Int64} (hd : decode E.2.1 pc = .ok (.lstore_n j, 1)) (hp : pc + 1 = pc') (hj : (j : Nat) = i) (hi : i + 1 < E.2.2.1) (he : l_set2 lv i (.long x) = lv') (k : zV G E cn pc' lv' (st) M Q) : zV G E cn pc lv (.long x :: st) M Q := by
  subst hp
  intro p l e s m args below meth c H locs Z ls C hH hS hl h1 h2 hR
  exact lv_lstore_n C.1 C.2.1 hd hj hl hi rfl (fun ls' hl' => k p l e s m args below meth c H locs Z ls' C hH hS (l_has2 hl' he) h1 h2 hR)
theorem zV_lstore {i : Nat} {x : Int64} (hd : decode E.2.1 pc = .ok (.lstore i, 2)) (hp : pc + 2 = pc') (hi : i + 1 < E.2.2.1) (he : l_set2 lv i (.long x) = lv') (k : zV G E cn pc' lv' (st) M Q) : zV G E cn pc lv (.long x :: st) M Q := by
  subst hp
  intro p l e s m args below meth c H locs Z ls C hH hS hl h1 h2 hR
  exact lv_lstore C.1 C.2.1 hd hl hi rfl (fun ls' hl' => k p l e s m args below meth c H locs Z ls' C hH hS (l_has2 hl' he) h1 h2 hR)
theorem zV_astore_n {j : Fin 4} {i q : Nat} (hd : decode E.2.1 pc = .ok (.astore_n j, 1)) (hp : pc + 1 = pc') (hj : (j : Nat) = i) (hi : i < E.2.2.1) (he : l_set1 lv i (.ref q) = lv') (k : zV G E cn pc' lv' (st) M Q) : zV G E cn pc lv (.ref q :: st) M Q := by
  subst hp
  intro p l e s m args below meth c H locs Z ls C hH hS hl h1 h2 hR
  exact lv_astore_n (x := g_ad G q) C.1 C.2.1 hd hj hl hi rfl (fun ls' hl' => k p l e s m args below meth c H locs Z ls' C hH hS (l_has1 (v := .ref q) hl' he) h1 h2 hR)
theorem zV_astore {i q : Nat} (hd : decode E.2.1 pc = .ok (.astore i, 2)) (hp : pc + 2 = pc') (hi : i < E.2.2.1) (he : l_set1 lv i (.ref q) = lv') (k : zV G E cn pc' lv' (st) M Q) : zV G E cn pc lv (.ref q :: st) M Q := by
  subst hp
  intro p l e s m args below meth c H locs Z ls C hH hS hl h1 h2 hR
  exact lv_astore (x := g_ad G q) C.1 C.2.1 hd hl hi rfl (fun ls' hl' => k p l e s m args below meth c H locs Z ls' C hH hS (l_has1 (v := .ref q) hl' he) h1 h2 hR)
theorem zV_iinc {i : Nat} {a : Int} {x y : Int32} (hd : decode E.2.1 pc = .ok (.iinc i a, 3)) (hp : pc + 3 = pc') (n : Nat) (hn : lv[n]? = some (i, .int x)) (hv : x + Int32.ofInt a = y) (hi : i < E.2.2.1) (he : l_set1 lv i (.int y) = lv') (k : zV G E cn pc' lv' (st) M Q) : zV G E cn pc lv (st) M Q := by
  subst hp
  intro p l e s m args below meth c H locs Z ls C hH hS hl h1 h2 hR
  exact lv_iinc (v := y) C.1 C.2.1 hd hl (k := n) (g_lv_at hn) hv hi rfl (fun ls' hl' => k p l e s m args below meth c H locs Z ls' C hH hS (l_has1 (v := .int y) hl' he) h1 h2 hR)
theorem zV_iadd {x y : Int32} (hd : decode E.2.1 pc = .ok (.iadd, 1)) (hp : pc + 1 = pc')  (k : zV G E cn pc' lv (.int (x + y) :: st) M Q) : zV G E cn pc lv (.int y :: .int x :: st) M Q := by
  subst hp
  intro p l e s m args below meth c H locs Z ls C hH hS hl h1 h2 hR
  exact lv_iadd C.1 C.2.1 hd (k p l e s m args below meth c H locs Z ls C hH hS hl h1 h2 hR)
theorem zV_isub {x y : Int32} (hd : decode E.2.1 pc = .ok (.isub, 1)) (hp : pc + 1 = pc')  (k : zV G E cn pc' lv (.int (x - y) :: st) M Q) : zV G E cn pc lv (.int y :: .int x :: st) M Q := by
  subst hp
  intro p l e s m args below meth c H locs Z ls C hH hS hl h1 h2 hR
  exact lv_isub C.1 C.2.1 hd (k p l e s m args below meth c H locs Z ls C hH hS hl h1 h2 hR)
theorem zV_imul {x y : Int32} (hd : decode E.2.1 pc = .ok (.imul, 1)) (hp : pc + 1 = pc')  (k : zV G E cn pc' lv (.int (x * y) :: st) M Q) : zV G E cn pc lv (.int y :: .int x :: st) M Q := by
  subst hp
  intro p l e s m args below meth c H locs Z ls C hH hS hl h1 h2 hR
  exact lv_imul C.1 C.2.1 hd (k p l e s m args below meth c H locs Z ls C hH hS hl h1 h2 hR)
theorem zV_iand {x y : Int32} (hd : decode E.2.1 pc = .ok (.iand, 1)) (hp : pc + 1 = pc')  (k : zV G E cn pc' lv (.int (x &&& y) :: st) M Q) : zV G E cn pc lv (.int y :: .int x :: st) M Q := by
  subst hp
  intro p l e s m args below meth c H locs Z ls C hH hS hl h1 h2 hR
  exact lv_iand C.1 C.2.1 hd (k p l e s m args below meth c H locs Z ls C hH hS hl h1 h2 hR)
theorem zV_ior {x y : Int32} (hd : decode E.2.1 pc = .ok (.ior, 1)) (hp : pc + 1 = pc')  (k : zV G E cn pc' lv (.int (x ||| y) :: st) M Q) : zV G E cn pc lv (.int y :: .int x :: st) M Q := by
  subst hp
  intro p l e s m args below meth c H locs Z ls C hH hS hl h1 h2 hR
  exact lv_ior C.1 C.2.1 hd (k p l e s m args below meth c H locs Z ls C hH hS hl h1 h2 hR)
theorem zV_ixor {x y : Int32} (hd : decode E.2.1 pc = .ok (.ixor, 1)) (hp : pc + 1 = pc')  (k : zV G E cn pc' lv (.int (x ^^^ y) :: st) M Q) : zV G E cn pc lv (.int y :: .int x :: st) M Q := by
  subst hp
  intro p l e s m args below meth c H locs Z ls C hH hS hl h1 h2 hR
  exact lv_ixor C.1 C.2.1 hd (k p l e s m args below meth c H locs Z ls C hH hS hl h1 h2 hR)
theorem zV_ladd {x y : Int64} (hd : decode E.2.1 pc = .ok (.ladd, 1)) (hp : pc + 1 = pc')  (k : zV G E cn pc' lv (.long (x + y) :: st) M Q) : zV G E cn pc lv (.long y :: .long x :: st) M Q := by
  subst hp
  intro p l e s m args below meth c H locs Z ls C hH hS hl h1 h2 hR
  exact lv_ladd C.1 C.2.1 hd (k p l e s m args below meth c H locs Z ls C hH hS hl h1 h2 hR)
theorem zV_lsub {x y : Int64} (hd : decode E.2.1 pc = .ok (.lsub, 1)) (hp : pc + 1 = pc')  (k : zV G E cn pc' lv (.long (x - y) :: st) M Q) : zV G E cn pc lv (.long y :: .long x :: st) M Q := by
  subst hp
  intro p l e s m args below meth c H locs Z ls C hH hS hl h1 h2 hR
  exact lv_lsub C.1 C.2.1 hd (k p l e s m args below meth c H locs Z ls C hH hS hl h1 h2 hR)
theorem zV_lmul {x y : Int64} (hd : decode E.2.1 pc = .ok (.lmul, 1)) (hp : pc + 1 = pc')  (k : zV G E cn pc' lv (.long (x * y) :: st) M Q) : zV G E cn pc lv (.long y :: .long x :: st) M Q := by
  subst hp
  intro p l e s m args below meth c H locs Z ls C hH hS hl h1 h2 hR
  exact lv_lmul C.1 C.2.1 hd (k p l e s m args below meth c H locs Z ls C hH hS hl h1 h2 hR)
theorem zV_land {x y : Int64} (hd : decode E.2.1 pc = .ok (.land, 1)) (hp : pc + 1 = pc')  (k : zV G E cn pc' lv (.long (x &&& y) :: st) M Q) : zV G E cn pc lv (.long y :: .long x :: st) M Q := by
  subst hp
  intro p l e s m args below meth c H locs Z ls C hH hS hl h1 h2 hR
  exact lv_land C.1 C.2.1 hd (k p l e s m args below meth c H locs Z ls C hH hS hl h1 h2 hR)
theorem zV_lor {x y : Int64} (hd : decode E.2.1 pc = .ok (.lor, 1)) (hp : pc + 1 = pc')  (k : zV G E cn pc' lv (.long (x ||| y) :: st) M Q) : zV G E cn pc lv (.long y :: .long x :: st) M Q := by
  subst hp
  intro p l e s m args below meth c H locs Z ls C hH hS hl h1 h2 hR
  exact lv_lor C.1 C.2.1 hd (k p l e s m args below meth c H locs Z ls C hH hS hl h1 h2 hR)
theorem zV_lxor {x y : Int64} (hd : decode E.2.1 pc = .ok (.lxor, 1)) (hp : pc + 1 = pc')  (k : zV G E cn pc' lv (.long (x ^^^ y) :: st) M Q) : zV G E cn pc lv (.long y :: .long x :: st) M Q := by
  subst hp
  intro p l e s m args below meth c H locs Z ls C hH hS hl h1 h2 hR
  exact lv_lxor C.1 C.2.1 hd (k p l e s m args below meth c H locs Z ls C hH hS hl h1 h2 hR)
theorem zV_idiv {x y : Int32} (hd : decode E.2.1 pc = .ok (.idiv, 1)) (hp : pc + 1 = pc') (hne : ¬ y = 0) (k : zV G E cn pc' lv (.int (x / y) :: st) M Q) : zV G E cn pc lv (.int y :: .int x :: st) M Q := by
  subst hp
  intro p l e s m args below meth c H locs Z ls C hH hS hl h1 h2 hR
  exact lv_idiv C.1 C.2.1 hd hne (k p l e s m args below meth c H locs Z ls C hH hS hl h1 h2 hR)
theorem zV_irem {x y : Int32} (hd : decode E.2.1 pc = .ok (.irem, 1)) (hp : pc + 1 = pc') (hne : ¬ y = 0) (k : zV G E cn pc' lv (.int (x - x / y * y) :: st) M Q) : zV G E cn pc lv (.int y :: .int x :: st) M Q := by
  subst hp
  intro p l e s m args below meth c H locs Z ls C hH hS hl h1 h2 hR
  exact lv_irem C.1 C.2.1 hd hne (k p l e s m args below meth c H locs Z ls C hH hS hl h1 h2 hR)
theorem zV_ldiv {x y : Int64} (hd : decode E.2.1 pc = .ok (.ldiv, 1)) (hp : pc + 1 = pc') (hne : ¬ y = 0) (k : zV G E cn pc' lv (.long (x / y) :: st) M Q) : zV G E cn pc lv (.long y :: .long x :: st) M Q := by
  subst hp
  intro p l e s m args below meth c H locs Z ls C hH hS hl h1 h2 hR
  exact lv_ldiv C.1 C.2.1 hd hne (k p l e s m args below meth c H locs Z ls C hH hS hl h1 h2 hR)
theorem zV_lrem {x y : Int64} (hd : decode E.2.1 pc = .ok (.lrem, 1)) (hp : pc + 1 = pc') (hne : ¬ y = 0) (k : zV G E cn pc' lv (.long (x - x / y * y) :: st) M Q) : zV G E cn pc lv (.long y :: .long x :: st) M Q := by
  subst hp
  intro p l e s m args below meth c H locs Z ls C hH hS hl h1 h2 hR
  exact lv_lrem C.1 C.2.1 hd hne (k p l e s m args below meth c H locs Z ls C hH hS hl h1 h2 hR)
theorem zV_ineg {x : Int32} (hd : decode E.2.1 pc = .ok (.ineg, 1)) (hp : pc + 1 = pc')  (k : zV G E cn pc' lv (.int (-x) :: st) M Q) : zV G E cn pc lv (.int x :: st) M Q := by
  subst hp
  intro p l e s m args below meth c H locs Z ls C hH hS hl h1 h2 hR
  exact lv_ineg C.1 C.2.1 hd (k p l e s m args below meth c H locs Z ls C hH hS hl h1 h2 hR)
theorem zV_ishl {x y : Int32} (hd : decode E.2.1 pc = .ok (.ishl, 1)) (hp : pc + 1 = pc')  (k : zV G E cn pc' lv (.int (x <<< (y &&& 31)) :: st) M Q) : zV G E cn pc lv (.int y :: .int x :: st) M Q := by
  subst hp
  intro p l e s m args below meth c H locs Z ls C hH hS hl h1 h2 hR
  exact lv_ishl C.1 C.2.1 hd (k p l e s m args below meth c H locs Z ls C hH hS hl h1 h2 hR)
theorem zV_ishr {x y : Int32} (hd : decode E.2.1 pc = .ok (.ishr, 1)) (hp : pc + 1 = pc')  (k : zV G E cn pc' lv (.int (x >>> (y &&& 31)) :: st) M Q) : zV G E cn pc lv (.int y :: .int x :: st) M Q := by
  subst hp
  intro p l e s m args below meth c H locs Z ls C hH hS hl h1 h2 hR
  exact lv_ishr C.1 C.2.1 hd (k p l e s m args below meth c H locs Z ls C hH hS hl h1 h2 hR)
theorem zV_iushr {x y : Int32} (hd : decode E.2.1 pc = .ok (.iushr, 1)) (hp : pc + 1 = pc')  (k : zV G E cn pc' lv (.int ((x.toUInt32 >>> (y.toUInt32 &&& Int32.toUInt32 31)).toInt32) :: st) M Q) : zV G E cn pc lv (.int y :: .int x :: st) M Q := by
  subst hp
  intro p l e s m args below meth c H locs Z ls C hH hS hl h1 h2 hR
  exact lv_iushr C.1 C.2.1 hd rfl (k p l e s m args below meth c H locs Z ls C hH hS hl h1 h2 hR)
theorem zV_lshl {x : Int64} {y : Int32} (hd : decode E.2.1 pc = .ok (.lshl, 1)) (hp : pc + 1 = pc')  (k : zV G E cn pc' lv (.long (x <<< (y.toInt64 &&& 63)) :: st) M Q) : zV G E cn pc lv (.int y :: .long x :: st) M Q := by
  subst hp
  intro p l e s m args below meth c H locs Z ls C hH hS hl h1 h2 hR
  exact lv_lshl C.1 C.2.1 hd rfl (k p l e s m args below meth c H locs Z ls C hH hS hl h1 h2 hR)
theorem zV_lshr {x : Int64} {y : Int32} (hd : decode E.2.1 pc = .ok (.lshr, 1)) (hp : pc + 1 = pc')  (k : zV G E cn pc' lv (.long (x >>> (y.toInt64 &&& 63)) :: st) M Q) : zV G E cn pc lv (.int y :: .long x :: st) M Q := by
  subst hp
  intro p l e s m args below meth c H locs Z ls C hH hS hl h1 h2 hR
  exact lv_lshr C.1 C.2.1 hd rfl (k p l e s m args below meth c H locs Z ls C hH hS hl h1 h2 hR)
theorem zV_lushr {x : Int64} {y : Int32} (hd : decode E.2.1 pc = .ok (.lushr, 1)) (hp : pc + 1 = pc')  (k : zV G E cn pc' lv (.long ((x.toUInt64 >>> (y.toInt64.toUInt64 &&& Int64.toUInt64 63)).toInt64) :: st) M Q) : zV G E cn pc lv (.int y :: .long x :: st) M Q := by
  subst hp
  intro p l e s m args below meth c H locs Z ls C hH hS hl h1 h2 hR
  exact lv_lushr C.1 C.2.1 hd rfl (k p l e s m args below meth c H locs Z ls C hH hS hl h1 h2 hR)
theorem zV_i2l {x : Int32} (hd : decode E.2.1 pc = .ok (.i2l, 1)) (hp : pc + 1 = pc')  (k : zV G E cn pc' lv (.long x.toInt64 :: st) M Q) : zV G E cn pc lv (.int x :: st) M Q := by
  subst hp
  intro p l e s m args below meth c H locs Z ls C hH hS hl h1 h2 hR
  exact lv_i2l C.1 C.2.1 hd rfl (k p l e s m args below meth c H locs Z ls C hH hS hl h1 h2 hR)
theorem zV_l2i {x : Int64} (hd : decode E.2.1 pc = .ok (.l2i, 1)) (hp : pc + 1 = pc')  (k : zV G E cn pc' lv (.int x.toInt32 :: st) M Q) : zV G E cn pc lv (.long x :: st) M Q := by
  subst hp
  intro p l e s m args below meth c H locs Z ls C hH hS hl h1 h2 hR
  exact lv_l2i C.1 C.2.1 hd rfl (k p l e s m args below meth c H locs Z ls C hH hS hl h1 h2 hR)
theorem zV_i2b {x : Int32} (hd : decode E.2.1 pc = .ok (.i2b, 1)) (hp : pc + 1 = pc')  (k : zV G E cn pc' lv (.int x.toInt8.toInt32 :: st) M Q) : zV G E cn pc lv (.int x :: st) M Q := by
  subst hp
  intro p l e s m args below meth c H locs Z ls C hH hS hl h1 h2 hR
  exact lv_i2b C.1 C.2.1 hd rfl (k p l e s m args below meth c H locs Z ls C hH hS hl h1 h2 hR)
theorem zV_i2s {x : Int32} (hd : decode E.2.1 pc = .ok (.i2s, 1)) (hp : pc + 1 = pc')  (k : zV G E cn pc' lv (.int x.toInt16.toInt32 :: st) M Q) : zV G E cn pc lv (.int x :: st) M Q := by
  subst hp
  intro p l e s m args below meth c H locs Z ls C hH hS hl h1 h2 hR
  exact lv_i2s C.1 C.2.1 hd rfl (k p l e s m args below meth c H locs Z ls C hH hS hl h1 h2 hR)
theorem zV_i2c {x : Int32} (hd : decode E.2.1 pc = .ok (.i2c, 1)) (hp : pc + 1 = pc')  (k : zV G E cn pc' lv (.int (x.toUInt32 % 65536).toInt32 :: st) M Q) : zV G E cn pc lv (.int x :: st) M Q := by
  subst hp
  intro p l e s m args below meth c H locs Z ls C hH hS hl h1 h2 hR
  exact lv_i2c C.1 C.2.1 hd rfl (k p l e s m args below meth c H locs Z ls C hH hS hl h1 h2 hR)
theorem zV_lcmp {x y : Int64} (hd : decode E.2.1 pc = .ok (.lcmp, 1)) (hp : pc + 1 = pc')  (k : zV G E cn pc' lv (.int (lg_cmp x y) :: st) M Q) : zV G E cn pc lv (.long y :: .long x :: st) M Q := by
  subst hp
  intro p l e s m args below meth c H locs Z ls C hH hS hl h1 h2 hR
  exact W.lcmp C.1 C.2.1 hd (k p l e s m args below meth c H locs Z ls C hH hS hl h1 h2 hR)
theorem zV_dup {va : Value} (hd : decode E.2.1 pc = .ok (.dup, 1)) (hp : pc + 1 = pc') (hv : va.category = 1) (k : zV G E cn pc' lv (va :: va :: st) M Q) : zV G E cn pc lv (va :: st) M Q := by
  subst hp
  intro p l e s m args below meth c H locs Z ls C hH hS hl h1 h2 hR
  exact lv_dup C.1 C.2.1 hd (by rw [g_cat]; exact hv) (k p l e s m args below meth c H locs Z ls C hH hS hl h1 h2 hR)
theorem zV_pop {va : Value} (hd : decode E.2.1 pc = .ok (.pop, 1)) (hp : pc + 1 = pc') (hv : va.category = 1) (k : zV G E cn pc' lv (st) M Q) : zV G E cn pc lv (va :: st) M Q := by
  subst hp
  intro p l e s m args below meth c H locs Z ls C hH hS hl h1 h2 hR
  exact lv_pop C.1 C.2.1 hd (by rw [g_cat]; exact hv) (k p l e s m args below meth c H locs Z ls C hH hS hl h1 h2 hR)
theorem zV_dup2 {va vb : Value} (hd : decode E.2.1 pc = .ok (.dup2, 1)) (hp : pc + 1 = pc') (hv : va.category = 1) (hw : vb.category = 1) (k : zV G E cn pc' lv (va :: vb :: va :: vb :: st) M Q) : zV G E cn pc lv (va :: vb :: st) M Q := by
  subst hp
  intro p l e s m args below meth c H locs Z ls C hH hS hl h1 h2 hR
  exact lv_dup2_11 C.1 C.2.1 hd (by rw [g_cat]; exact hv) (by rw [g_cat]; exact hw) (k p l e s m args below meth c H locs Z ls C hH hS hl h1 h2 hR)
theorem zV_dup_x1 {va vb : Value} (hd : decode E.2.1 pc = .ok (.dup_x1, 1)) (hp : pc + 1 = pc') (hv : va.category = 1) (hw : vb.category = 1) (k : zV G E cn pc' lv (va :: vb :: va :: st) M Q) : zV G E cn pc lv (va :: vb :: st) M Q := by
  subst hp
  intro p l e s m args below meth c H locs Z ls C hH hS hl h1 h2 hR
  exact lv_dup_x1 C.1 C.2.1 hd (by rw [g_cat]; exact hv) (by rw [g_cat]; exact hw) (k p l e s m args below meth c H locs Z ls C hH hS hl h1 h2 hR)
theorem zV_if_eq {x : Int32} {off : Int} {tgt : Nat} (hd : decode E.2.1 pc = .ok (.ifCond .eq off, 3)) (ht : (pc : Int) + off = (tgt : Int)) (hp : pc + 3 = pc') (kt : x = 0 → zV G E cn tgt lv st M Q) (kf : ¬ x = 0 → zV G E cn pc' lv st M Q) : zV G E cn pc lv (.int x :: st) M Q := by
  subst hp
  intro p l e s m args below meth c H locs Z ls C hH hS hl h1 h2 hR
  exact lv_if_eq C.1 C.2.1 hd ht (fun z => kt z p l e s m args below meth c H locs Z ls C hH hS hl h1 h2 hR) (fun z => kf z p l e s m args below meth c H locs Z ls C hH hS hl h1 h2 hR)
theorem zV_icmp_eq {x y : Int32} {off : Int} {tgt : Nat} (hd : decode E.2.1 pc = .ok (.if_icmp .eq off, 3)) (ht : (pc : Int) + off = (tgt : Int)) (hp : pc + 3 = pc') (kt : x = y → zV G E cn tgt lv st M Q) (kf : ¬ x = y → zV G E cn pc' lv st M Q) : zV G E cn pc lv (.int y :: .int x :: st) M Q := by
  subst hp
  intro p l e s m args below meth c H locs Z ls C hH hS hl h1 h2 hR
  exact lv_icmp_eq C.1 C.2.1 hd ht (fun z => kt z p l e s m args below meth c H locs Z ls C hH hS hl h1 h2 hR) (fun z => kf z p l e s m args below meth c H locs Z ls C hH hS hl h1 h2 hR)
theorem zV_if_ne {x : Int32} {off : Int} {tgt : Nat} (hd : decode E.2.1 pc = .ok (.ifCond .ne off, 3)) (ht : (pc : Int) + off = (tgt : Int)) (hp : pc + 3 = pc') (kt : ¬ x = 0 → zV G E cn tgt lv st M Q) (kf : x = 0 → zV G E cn pc' lv st M Q) : zV G E cn pc lv (.int x :: st) M Q := by
  subst hp
  intro p l e s m args below meth c H locs Z ls C hH hS hl h1 h2 hR
  exact lv_if_ne C.1 C.2.1 hd ht (fun z => kt z p l e s m args below meth c H locs Z ls C hH hS hl h1 h2 hR) (fun z => kf z p l e s m args below meth c H locs Z ls C hH hS hl h1 h2 hR)
theorem zV_icmp_ne {x y : Int32} {off : Int} {tgt : Nat} (hd : decode E.2.1 pc = .ok (.if_icmp .ne off, 3)) (ht : (pc : Int) + off = (tgt : Int)) (hp : pc + 3 = pc') (kt : ¬ x = y → zV G E cn tgt lv st M Q) (kf : x = y → zV G E cn pc' lv st M Q) : zV G E cn pc lv (.int y :: .int x :: st) M Q := by
  subst hp
  intro p l e s m args below meth c H locs Z ls C hH hS hl h1 h2 hR
  exact lv_icmp_ne C.1 C.2.1 hd ht (fun z => kt z p l e s m args below meth c H locs Z ls C hH hS hl h1 h2 hR) (fun z => kf z p l e s m args below meth c H locs Z ls C hH hS hl h1 h2 hR)
theorem zV_if_lt {x : Int32} {off : Int} {tgt : Nat} (hd : decode E.2.1 pc = .ok (.ifCond .lt off, 3)) (ht : (pc : Int) + off = (tgt : Int)) (hp : pc + 3 = pc') (kt : x < 0 → zV G E cn tgt lv st M Q) (kf : ¬ x < 0 → zV G E cn pc' lv st M Q) : zV G E cn pc lv (.int x :: st) M Q := by
  subst hp
  intro p l e s m args below meth c H locs Z ls C hH hS hl h1 h2 hR
  exact lv_if_lt C.1 C.2.1 hd ht (fun z => kt z p l e s m args below meth c H locs Z ls C hH hS hl h1 h2 hR) (fun z => kf z p l e s m args below meth c H locs Z ls C hH hS hl h1 h2 hR)
theorem zV_icmp_lt {x y : Int32} {off : Int} {tgt : Nat} (hd : decode E.2.1 pc = .ok (.if_icmp .lt off, 3)) (ht : (pc : Int) + off = (tgt : Int)) (hp : pc + 3 = pc') (kt : x < y → zV G E cn tgt lv st M Q) (kf : ¬ x < y → zV G E cn pc' lv st M Q) : zV G E cn pc lv (.int y :: .int x :: st) M Q := by
  subst hp
  intro p l e s m args below meth c H locs Z ls C hH hS hl h1 h2 hR
  exact lv_icmp_lt C.1 C.2.1 hd ht (fun z => kt z p l e s m args below meth c H locs Z ls C hH hS hl h1 h2 hR) (fun z => kf z p l e s m args below meth c H locs Z ls C hH hS hl h1 h2 hR)
theorem zV_if_ge {x : Int32} {off : Int} {tgt : Nat} (hd : decode E.2.1 pc = .ok (.ifCond .ge off, 3)) (ht : (pc : Int) + off = (tgt : Int)) (hp : pc + 3 = pc') (kt : 0 ≤ x → zV G E cn tgt lv st M Q) (kf : ¬ 0 ≤ x → zV G E cn pc' lv st M Q) : zV G E cn pc lv (.int x :: st) M Q := by
  subst hp
  intro p l e s m args below meth c H locs Z ls C hH hS hl h1 h2 hR
  exact lv_if_ge C.1 C.2.1 hd ht (fun z => kt z p l e s m args below meth c H locs Z ls C hH hS hl h1 h2 hR) (fun z => kf z p l e s m args below meth c H locs Z ls C hH hS hl h1 h2 hR)
theorem zV_icmp_ge {x y : Int32} {off : Int} {tgt : Nat} (hd : decode E.2.1 pc = .ok (.if_icmp .ge off, 3)) (ht : (pc : Int) + off = (tgt : Int)) (hp : pc + 3 = pc') (kt : y ≤ x → zV G E cn tgt lv st M Q) (kf : ¬ y ≤ x → zV G E cn pc' lv st M Q) : zV G E cn pc lv (.int y :: .int x :: st) M Q := by
  subst hp
  intro p l e s m args below meth c H locs Z ls C hH hS hl h1 h2 hR
  exact lv_icmp_ge C.1 C.2.1 hd ht (fun z => kt z p l e s m args below meth c H locs Z ls C hH hS hl h1 h2 hR) (fun z => kf z p l e s m args below meth c H locs Z ls C hH hS hl h1 h2 hR)
theorem zV_if_gt {x : Int32} {off : Int} {tgt : Nat} (hd : decode E.2.1 pc = .ok (.ifCond .gt off, 3)) (ht : (pc : Int) + off = (tgt : Int)) (hp : pc + 3 = pc') (kt : 0 < x → zV G E cn tgt lv st M Q) (kf : ¬ 0 < x → zV G E cn pc' lv st M Q) : zV G E cn pc lv (.int x :: st) M Q := by
  subst hp
  intro p l e s m args below meth c H locs Z ls C hH hS hl h1 h2 hR
  exact lv_if_gt C.1 C.2.1 hd ht (fun z => kt z p l e s m args below meth c H locs Z ls C hH hS hl h1 h2 hR) (fun z => kf z p l e s m args below meth c H locs Z ls C hH hS hl h1 h2 hR)
theorem zV_icmp_gt {x y : Int32} {off : Int} {tgt : Nat} (hd : decode E.2.1 pc = .ok (.if_icmp .gt off, 3)) (ht : (pc : Int) + off = (tgt : Int)) (hp : pc + 3 = pc') (kt : y < x → zV G E cn tgt lv st M Q) (kf : ¬ y < x → zV G E cn pc' lv st M Q) : zV G E cn pc lv (.int y :: .int x :: st) M Q := by
  subst hp
  intro p l e s m args below meth c H locs Z ls C hH hS hl h1 h2 hR
  exact lv_icmp_gt C.1 C.2.1 hd ht (fun z => kt z p l e s m args below meth c H locs Z ls C hH hS hl h1 h2 hR) (fun z => kf z p l e s m args below meth c H locs Z ls C hH hS hl h1 h2 hR)
theorem zV_if_le {x : Int32} {off : Int} {tgt : Nat} (hd : decode E.2.1 pc = .ok (.ifCond .le off, 3)) (ht : (pc : Int) + off = (tgt : Int)) (hp : pc + 3 = pc') (kt : x ≤ 0 → zV G E cn tgt lv st M Q) (kf : ¬ x ≤ 0 → zV G E cn pc' lv st M Q) : zV G E cn pc lv (.int x :: st) M Q := by
  subst hp
  intro p l e s m args below meth c H locs Z ls C hH hS hl h1 h2 hR
  exact lv_if_le C.1 C.2.1 hd ht (fun z => kt z p l e s m args below meth c H locs Z ls C hH hS hl h1 h2 hR) (fun z => kf z p l e s m args below meth c H locs Z ls C hH hS hl h1 h2 hR)
theorem zV_icmp_le {x y : Int32} {off : Int} {tgt : Nat} (hd : decode E.2.1 pc = .ok (.if_icmp .le off, 3)) (ht : (pc : Int) + off = (tgt : Int)) (hp : pc + 3 = pc') (kt : x ≤ y → zV G E cn tgt lv st M Q) (kf : ¬ x ≤ y → zV G E cn pc' lv st M Q) : zV G E cn pc lv (.int y :: .int x :: st) M Q := by
  subst hp
  intro p l e s m args below meth c H locs Z ls C hH hS hl h1 h2 hR
  exact lv_icmp_le C.1 C.2.1 hd ht (fun z => kt z p l e s m args below meth c H locs Z ls C hH hS hl h1 h2 hR) (fun z => kf z p l e s m args below meth c H locs Z ls C hH hS hl h1 h2 hR)
theorem zV_goto {off : Int} {tgt : Nat} (hd : decode E.2.1 pc = .ok (.goto off, 3)) (ht : (pc : Int) + off = (tgt : Int)) (k : zV G E cn tgt lv st M Q) : zV G E cn pc lv st M Q := by
  intro p l e s m args below meth c H locs Z ls C hH hS hl h1 h2 hR
  exact lv_goto C.1 C.2.1 hd ht (k p l e s m args below meth c H locs Z ls C hH hS hl h1 h2 hR)
theorem zV_tableOut {dflt lo hi : Int} {offs : Array Int} {len : Nat} {x : Int32} {tgt : Nat} (hd : decode E.2.1 pc = .ok (.tableswitch dflt lo hi offs, len)) (h : x.toInt < lo ∨ hi < x.toInt) (ht : (pc : Int) + dflt = (tgt : Int)) (k : zV G E cn tgt lv st M Q) : zV G E cn pc lv (.int x :: st) M Q := by
  intro p l e s m args below meth c H locs Z ls C hH hS hl h1 h2 hR
  exact lv_tableOut C.1 C.2.1 hd h ht (k p l e s m args below meth c H locs Z ls C hH hS hl h1 h2 hR)
theorem zV_tableIn {dflt lo hi : Int} {offs : Array Int} {len : Nat} {x : Int32} {off : Int} {tgt : Nat} (hd : decode E.2.1 pc = .ok (.tableswitch dflt lo hi offs, len)) (g1 : ¬ x.toInt < lo) (g2 : ¬ hi < x.toInt) (ho : offs[(x.toInt - lo).toNat]? = some off) (ht : (pc : Int) + off = (tgt : Int)) (k : zV G E cn tgt lv st M Q) : zV G E cn pc lv (.int x :: st) M Q := by
  intro p l e s m args below meth c H locs Z ls C hH hS hl h1 h2 hR
  exact lv_tableIn C.1 C.2.1 hd g1 g2 ho ht (k p l e s m args below meth c H locs Z ls C hH hS hl h1 h2 hR)
theorem zV_ireturn {v : Int32} {ty : FieldType} (hd : decode E.2.1 pc = .ok (.ireturn, 1)) (hr : E.2.2.2.1 = some ty) (hn : narrow ty (.int v) = .int v) (hq : Q (some (.int v)) M) : zV G E cn pc lv [.int v] M Q := by
  intro p l e s m args below meth c H locs Z ls C hH hS hl h1 h2 hR
  exact hR (some (.int v)) M H locs cn pc ls hq hH hS.1 h1 h2 ⟨ty, hr, hn, hd⟩
theorem zV_lreturn {v : Int64} (hd : decode E.2.1 pc = .ok (.lreturn, 1)) (hr : E.2.2.2.1 = some .long) (hq : Q (some (.long v)) M) : zV G E cn pc lv [.long v] M Q := by
  intro p l e s m args below meth c H locs Z ls C hH hS hl h1 h2 hR
  exact hR (some (.long v)) M H locs cn pc ls hq hH hS.1 h1 h2 ⟨hr, hd⟩
theorem zV_areturn {q : Nat} {n : String} (hd : decode E.2.1 pc = .ok (.areturn, 1)) (hr : E.2.2.2.1 = some (.object n)) (hq : Q (some (.ref q)) M) : zV G E cn pc lv [.ref q] M Q := by
  intro p l e s m args below meth c H locs Z ls C hH hS hl h1 h2 hR
  exact hR (some (.ref q)) M H locs cn pc ls hq hH hS.1 h1 h2 ⟨⟨n, hr⟩, hd⟩
theorem zV_return (hd : decode E.2.1 pc = .ok (.return_, 1)) (hr : E.2.2.2.1 = none) (hq : Q none M) : zV G E cn pc lv [] M Q := by
  intro p l e s m args below meth c H locs Z ls C hH hS hl h1 h2 hR
  exact hR none M H locs cn pc ls hq hH hS.1 h1 h2 ⟨hr, hd⟩
end ZR
