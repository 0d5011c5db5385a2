/-! THE SMALL MACHINE: a flat memory of ints, longs and references by places; a judgement zV over it, out of W -/
def tG : List Cond := lw_tbl.filter goodWord
theorem tG_mem {w : Cond} (h : w ∈ lw_tbl) (g : goodWord w = true) : w ∈ tG := List.mem_filter.mpr ⟨h, g⟩
theorem tG_t {w : Cond} {i : Nat} (h : tables_1[i]? = some w) (g : goodWord w = true) : w ∈ tG := tG_mem (List.mem_append_right _ (List.mem_of_getElem? h)) g
theorem tG_s {q : MethodName × Nat} {i : Nat} (h : lw_privs[i]? = some q) (g : goodWord (Cond.selects q.1.cls q.1 q.1) = true) : Cond.selects q.1.cls q.1 q.1 ∈ tG := tG_mem (List.mem_append_left _ (List.mem_map.mpr ⟨q, List.mem_of_getElem? h, rfl⟩)) g
theorem tG_good : ∀ w ∈ tG, (w.onTables && w.keeps) = true ∨ ∃ ty, w = .arrayClass ty := fun _ h => good_of_word (List.mem_filter.mp h).2
theorem tG_lw {w : Cond} (h : w ∈ tG) : w ∈ lw_tbl := (List.mem_filter.mp h).1
/-- memory: the shape (kind 0: an object of a class; kind 1: an array of a type; how many slots), ints, longs, references -/
abbrev mM : Type := List (Nat × Nat × Nat) × (Nat → Nat → Int32) × (Nat → Nat → Int64) × (Nat → Nat → Option Nat)
/-- what a run fixes: the first new address, the old cells' addresses, the classes' numbers and slots, the array classes -/
abbrev mG : Type := Nat × (Nat → Nat) × va_G × (Nat → ClassId) × Nat × (Nat → Int32)
def g_ad (G : mG) (q : Nat) : Nat := if q < 1000 then G.1 + q else G.2.1 (q - 1000)
def g_tv (G : mG) (v : Value) : Value := match v with
  | .ref q => .ref (g_ad G q)
  | v => v
def g_ty (t : Nat) : FieldType := match t with
  | 0 => .int
  | 1 => .long
  | 2 => .boolean
  | 3 => .object "TurningCoins$Coin"
  | 4 => .object "TurningCoins$Sheet"
  | 5 => .object "java/lang/String"
  | _ => .array .long
def g_tys (G : mG) : List (ClassId × FieldType) := (List.range 7).map (fun t => (G.2.2.2.1 t, g_ty t))
/-- which fields are references -/
def g_fr (ci k : Nat) : Bool := match ci with
  | 0 => false
  | 1 => k < 2
  | 2 => k < 2 || (4 ≤ k && k < 7)
  | 3 => k == 0
  | 4 => k == 0
  | 5 => k < 2 || (3 ≤ k && k < 6)
  | 6 => !(k == 3 || k == 5)
  | _ => k < 3 || k == 4 || k == 5 || k == 9 || k == 16 || k == 17 || k == 20 || (21 ≤ k && k < 25)
def g_fv (G : mG) (M : mM) (ci i k : Nat) : Value := if g_fr ci k then va_rf ((M.2.2.2 i k).map (g_ad G)) else .int (M.2.1 i k)
def g_ct (G : mG) (M : mM) (t i : Nat) : (Nat → Int32) ⊕ (Nat → Int64) ⊕ (Nat → UInt32) ⊕ (Nat → UInt64) ⊕ (Nat → Option Nat) :=
  if t = 0 ∨ t = 2 then .inl (fun j => M.2.1 i j) else if t = 1 then .inr (.inl (fun j => M.2.2.1 i j)) else .inr (.inr (.inr (.inr (fun j => (M.2.2.2 i j).map (g_ad G)))))
def g_cell (G : mG) (M : mM) (i : Nat) : va_E := match M.1[i]? with
  | some (0, ci, n) => .inr (ci, (List.range n).map (fun k => g_fv G M ci i k))
  | some (_, t, n) => .inl (G.2.2.2.1 t, n, g_ct G M t i)
  | none => .inr (0, [])
def g_ws (G : mG) (M : mM) : va_W := (List.range M.1.length).map (fun i => (g_ad G i, g_cell G M i))
def g_A (G : mG) : Nat → Prop := fun q => G.1 ≤ q
def g_H (G : mG) (M : mM) (H : Heap) : Prop := M.1.length ≤ 1000 ∧ H.size = G.1 + M.1.length ∧ va_P G.2.2.1 vwCl (g_ws G M) H
theorem g_ws_at {G : mG} {M : mM} {i : Nat} (h : i < M.1.length) : (g_ws G M)[i]? = some (g_ad G i, g_cell G M i) := by
  unfold g_ws
  rw [List.getElem?_map, List.getElem?_range h]
  rfl
theorem g_lt {M : mM} {i : Nat} {x : Nat × Nat × Nat} (h : M.1[i]? = some x) : i < M.1.length := (List.getElem?_eq_some_iff.mp h).1
theorem g_ws_o {G : mG} {M : mM} {i ci n : Nat} (h : M.1[i]? = some (0, ci, n)) : (g_ws G M)[i]? = some (g_ad G i, .inr (ci, (List.range n).map (fun k => g_fv G M ci i k))) := by
  rw [g_ws_at (g_lt h), g_cell, h]
  rfl
theorem g_ws_a {G : mG} {M : mM} {i t n : Nat} (h : M.1[i]? = some (1, t, n)) : (g_ws G M)[i]? = some (g_ad G i, .inl (G.2.2.2.1 t, n, g_ct G M t i)) := by
  rw [g_ws_at (g_lt h), g_cell, h]
  rfl
theorem g_D {G : mG} {M : mM} (h : M.1.length ≤ 1000) : va_D (g_A G) (g_ws G M) := by
  have e : ∀ (k : Nat) (q : Nat × va_E), (g_ws G M)[k]? = some q → k < M.1.length ∧ q.1 = G.1 + k := by
    intro k q hq
    unfold g_ws at hq
    rw [List.getElem?_map] at hq
    by_cases hk : k < M.1.length
    · rw [List.getElem?_range hk] at hq
      cases hq
      exact ⟨hk, by show g_ad G k = _; rw [g_ad, if_pos (by omega)]⟩
    · rw [List.getElem?_eq_none (by rw [List.length_range]; omega)] at hq
      cases hq
  refine ⟨fun i j p q hi hj hpq => ?_, fun k q hq => ?_⟩
  · have h1 := (e i p hi).2
    have h2 := (e j q hj).2
    omega
  · have h1 := (e k q hq).2
    show G.1 ≤ q.1
    omega
theorem g_tys_at {G : mG} {t : Nat} (h : t < 7) : (g_tys G)[t]? = some (G.2.2.2.1 t, g_ty t) := by
  unfold g_tys
  rw [List.getElem?_map, List.getElem?_range h]
  rfl
theorem g_fs_at {G : mG} {M : mM} {ci i n k : Nat} (h : k < n) : ((List.range n).map (fun k => g_fv G M ci i k))[k]? = some (g_fv G M ci i k) := by
  rw [List.getElem?_map, List.getElem?_range h]
  rfl
/-- one slot of one place -/
def up2 {α : Type} (f : Nat → Nat → α) (i k : Nat) (v : α) : Nat → Nat → α := fun a b => if a = i then (if b = k then v else f a b) else f a b
theorem up2_same {α : Type} (f : Nat → Nat → α) (i k : Nat) (v : α) : up2 f i k v i k = v := by simp [up2]
theorem up2_ni {α : Type} {f : Nat → Nat → α} {i k a b : Nat} {v : α} (h : a ≠ i) : up2 f i k v a b = f a b := by simp [up2, h]
theorem up2_nk {α : Type} {f : Nat → Nat → α} {i k b : Nat} {v : α} (h : b ≠ k) : up2 f i k v i b = f i b := by simp [up2, h]
theorem g_set {G : mG} {M M' : mM} {i : Nat} {x : Nat × va_E} (hs : M'.1 = M.1) (hi : i < M.1.length) (ho : ∀ j, j ≠ i → g_cell G M' j = g_cell G M j) (hx : (g_ad G i, g_cell G M' i) = x) : (g_ws G M).set i x = g_ws G M' := by
  apply List.ext_getElem?
  intro j
  rw [List.getElem?_set]
  by_cases h : i = j
  · subst h
    have hl : i < (g_ws G M).length := by unfold g_ws; rw [List.length_map, List.length_range]; exact hi
    rw [if_pos rfl, if_pos hl, g_ws_at (by rw [hs]; exact hi), hx]
  · rw [if_neg h]
    by_cases hj : j < M.1.length
    · rw [g_ws_at hj, g_ws_at (by rw [hs]; exact hj), ho j (fun q => h q.symm)]
    · unfold g_ws
      rw [List.getElem?_eq_none (by rw [List.length_map, List.length_range]; omega), List.getElem?_eq_none (by rw [List.length_map, List.length_range, hs]; omega)]
theorem g_ws_len {G : mG} {M : mM} : (g_ws G M).length = M.1.length := by unfold g_ws; rw [List.length_map, List.length_range]
theorem g_rset {α : Type} {n k : Nat} {f g : Nat → α} (hk : k < n) (ho : ∀ j, j ≠ k → g j = f j) : ((List.range n).map f).set k (g k) = (List.range n).map g := by
  apply List.ext_getElem?
  intro j
  rw [List.getElem?_set]
  by_cases h : k = j
  · subst h
    rw [if_pos rfl, if_pos (by simpa using hk), List.getElem?_map, List.getElem?_range hk]
    rfl
  · rw [if_neg h, List.getElem?_map, List.getElem?_map]
    by_cases hj : j < n
    · rw [List.getElem?_range hj]
      show some (f j) = some (g j)
      rw [ho j (fun q => h q.symm)]
    · rw [List.getElem?_eq_none (by rw [List.length_range]; omega)]
      rfl
theorem g_cell_I {G : mG} {sh : List (Nat × Nat × Nat)} {I I' : Nat → Nat → Int32} {L : Nat → Nat → Int64} {R : Nat → Nat → Option Nat} {j : Nat} (h : ∀ b, I' j b = I j b) : g_cell G (sh, I', L, R) j = g_cell G (sh, I, L, R) j := by
  have e : I' j = I j := funext h
  unfold g_cell g_fv g_ct
  simp only [e]
theorem g_cell_L {G : mG} {sh : List (Nat × Nat × Nat)} {I : Nat → Nat → Int32} {L L' : Nat → Nat → Int64} {R : Nat → Nat → Option Nat} {j : Nat} (h : ∀ b, L' j b = L j b) : g_cell G (sh, I, L', R) j = g_cell G (sh, I, L, R) j := by
  have e : L' j = L j := funext h
  unfold g_cell g_fv g_ct
  simp only [e]
theorem g_cell_R {G : mG} {sh : List (Nat × Nat × Nat)} {I : Nat → Nat → Int32} {L : Nat → Nat → Int64} {R R' : Nat → Nat → Option Nat} {j : Nat} (h : ∀ b, R' j b = R j b) : g_cell G (sh, I, L, R') j = g_cell G (sh, I, L, R) j := by
  have e : R' j = R j := funext h
  unfold g_cell g_fv g_ct
  simp only [e]
