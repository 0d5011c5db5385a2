/-! THE RULES OF THE HEAP -/
theorem g_in0 : ∀ w ∈ u_ws RX0 TX0 6, w ∈ tG := by
  have e : u_ws RX0 TX0 6 = [60, 62, 64, 66, 68, 70].filterMap (fun i => tables_1[i]?) := by decide +kernel
  have g : (u_ws RX0 TX0 6).all goodWord = true := by decide +kernel
  intro w hw
  have hg := List.all_eq_true.mp g w hw
  rw [e] at hw
  obtain ⟨i, -, hi⟩ := List.mem_filterMap.mp hw
  exact tG_t hi hg
theorem g_in1 : ∀ w ∈ u_ws RX1 TX1 5, w ∈ tG := by
  have e : u_ws RX1 TX1 5 = [93, 95, 97, 99, 101].filterMap (fun i => tables_1[i]?) := by decide +kernel
  have g : (u_ws RX1 TX1 5).all goodWord = true := by decide +kernel
  intro w hw
  have hg := List.all_eq_true.mp g w hw
  rw [e] at hw
  obtain ⟨i, -, hi⟩ := List.mem_filterMap.mp hw
  exact tG_t hi hg
theorem g_in2 : ∀ w ∈ u_ws RX2 TX2 9, w ∈ tG := by
  have e : u_ws RX2 TX2 9 = [148, 150, 152, 154, 156, 158, 160, 162, 164].filterMap (fun i => tables_1[i]?) := by decide +kernel
  have g : (u_ws RX2 TX2 9).all goodWord = true := by decide +kernel
  intro w hw
  have hg := List.all_eq_true.mp g w hw
  rw [e] at hw
  obtain ⟨i, -, hi⟩ := List.mem_filterMap.mp hw
  exact tG_t hi hg
theorem g_in3 : ∀ w ∈ u_ws RX3 TX3 6, w ∈ tG := by
  have e : u_ws RX3 TX3 6 = [116, 118, 120, 122, 124, 126].filterMap (fun i => tables_1[i]?) := by decide +kernel
  have g : (u_ws RX3 TX3 6).all goodWord = true := by decide +kernel
  intro w hw
  have hg := List.all_eq_true.mp g w hw
  rw [e] at hw
  obtain ⟨i, -, hi⟩ := List.mem_filterMap.mp hw
  exact tG_t hi hg
theorem g_in4 : ∀ w ∈ u_ws RX4 TX4 3, w ∈ tG := by
  have e : u_ws RX4 TX4 3 = [216, 218, 220].filterMap (fun i => tables_1[i]?) := by decide +kernel
  have g : (u_ws RX4 TX4 3).all goodWord = true := by decide +kernel
  intro w hw
  have hg := List.all_eq_true.mp g w hw
  rw [e] at hw
  obtain ⟨i, -, hi⟩ := List.mem_filterMap.mp hw
  exact tG_t hi hg
theorem g_in5 : ∀ w ∈ u_ws RX5 TX5 9, w ∈ tG := by
  have e : u_ws RX5 TX5 9 = [186, 188, 190, 192, 194, 196, 198, 200, 202].filterMap (fun i => tables_1[i]?) := by decide +kernel
  have g : (u_ws RX5 TX5 9).all goodWord = true := by decide +kernel
  intro w hw
  have hg := List.all_eq_true.mp g w hw
  rw [e] at hw
  obtain ⟨i, -, hi⟩ := List.mem_filterMap.mp hw
  exact tG_t hi hg
theorem g_in6 : ∀ w ∈ u_ws RX6 TX6 11, w ∈ tG := by
  have e : u_ws RX6 TX6 11 = [234, 236, 238, 240, 242, 244, 246, 248, 250, 252, 254].filterMap (fun i => tables_1[i]?) := by decide +kernel
  have g : (u_ws RX6 TX6 11).all goodWord = true := by decide +kernel
  intro w hw
  have hg := List.all_eq_true.mp g w hw
  rw [e] at hw
  obtain ⟨i, -, hi⟩ := List.mem_filterMap.mp hw
  exact tG_t hi hg
theorem g_in7 : ∀ w ∈ u_ws RX7 TX7 25, w ∈ tG := by
  have e : u_ws RX7 TX7 25 = [908, 910, 912, 914, 916, 918, 920, 922, 924, 926, 928, 930, 932, 934, 936, 938, 940, 942, 944, 946, 948, 950, 952, 954, 956].filterMap (fun i => tables_1[i]?) := by decide +kernel
  have g : (u_ws RX7 TX7 25).all goodWord = true := by decide +kernel
  intro w hw
  have hg := List.all_eq_true.mp g w hw
  rw [e] at hw
  obtain ⟨i, -, hi⟩ := List.mem_filterMap.mp hw
  exact tG_t hi hg
def g_fty (ci : Nat) : Nat → FieldType := match ci with
  | 0 => tyX0
  | 1 => tyX1
  | 2 => tyX2
  | 3 => tyX3
  | 4 => tyX4
  | 5 => tyX5
  | 6 => tyX6
  | _ => tyX7
theorem g_cls {ci : Nat} {r : vw_C} (h : vwCl[ci]? = some r) : (∀ w ∈ u_ws r.1 r.2.1 r.2.2, w ∈ tG) ∧ (∀ k, k < r.2.2 → parseFieldDescriptor (r.2.1 k).2.2.1 = some (g_fty ci k)) ∧ (∀ a, a < r.2.2 → ∀ b, b < r.2.2 → a ≠ b → (r.2.1 a).2.1 ≠ (r.2.1 b).2.1) := by
  match ci, h with
  | 0, h => cases h; exact ⟨g_in0, tyX0_ok, nmX0⟩
  | 1, h => cases h; exact ⟨g_in1, tyX1_ok, nmX1⟩
  | 2, h => cases h; exact ⟨g_in2, tyX2_ok, nmX2⟩
  | 3, h => cases h; exact ⟨g_in3, tyX3_ok, nmX3⟩
  | 4, h => cases h; exact ⟨g_in4, tyX4_ok, nmX4⟩
  | 5, h => cases h; exact ⟨g_in5, tyX5_ok, nmX5⟩
  | 6, h => cases h; exact ⟨g_in6, tyX6_ok, nmX6⟩
  | 7, h => cases h; exact ⟨g_in7, tyX7_ok, nmX7⟩
  | k + 8, h => simp [vwCl] at h
/-- a field's link: class own, entry idx: field k of class ci -/
def g_fl (own : String) (idx ci k : Nat) (fin : Bool) : Prop := ∃ r : vw_C, vwCl[ci]? = some r ∧ k < r.2.2 ∧ Cond.fieldLink own idx (r.2.1 k).1 (r.2.1 k).2.1 (r.2.1 k).2.2.1 ∈ tG ∧ (r.2.1 k).2.2.2 = fin ∧ (fin = true → (r.2.1 k).1 = own)
section ZH
variable {G : mG} {E : mE} {cn : Nat × Nat} {pc pc' : Nat} {lv lv' : List (Nat × Value)} {st : List Value} {Q : Option Value → mM → Prop}
variable {sh : List (Nat × Nat × Nat)} {I : Nat → Nat → Int32} {J : Nat → Nat → Int64} {R : Nat → Nat → Option Nat}
theorem zV_geti {q idx ci n : Nat} (k : Nat) {fin : Bool} (hd : decode E.2.1 pc = .ok (.getfield idx, 3)) (hp : pc + 3 = pc') (hf : g_fl E.1 idx ci k fin) (hs : sh[q]? = some (0, ci, n)) (hn : k < n) (hr : g_fr ci k = false) (kk : zV G E cn pc' lv (.int (I q k) :: st) (sh, I, J, R) Q) : zV G E cn pc lv (.ref q :: st) (sh, I, J, R) Q := by
  subst hp
  intro p l e s m args below meth c H locs Z ls C hH hS hl h1 h2 hR
  obtain ⟨⟨C0, T0, N0⟩, hc, hk, hw, -⟩ := hf
  refine va_get (C := C0) (T := T0) (N := N0) (D := G.2.2.1) (v := .int (I q k)) C.1 C.2.1 C.2.2.2.2.2.2.1 (g_cls hc).1 C.2.2.2.1 C.2.2.2.2.2.2.2.1 hH.2.2 q (g_ws_o hs) hc k hk (C.2.2.2.2.2.2.1 _ hw) (fun _ h => h) ?_ hd (kk p l e s m args below meth c H locs Z ls C hH hS hl h1 h2 hR)
  rw [g_fs_at hn, g_fv, hr]
  rfl
theorem zV_getr {q q' idx ci n : Nat} (k : Nat) {fin : Bool} (hd : decode E.2.1 pc = .ok (.getfield idx, 3)) (hp : pc + 3 = pc') (hf : g_fl E.1 idx ci k fin) (hs : sh[q]? = some (0, ci, n)) (hn : k < n) (hr : g_fr ci k = true) (hv : R q k = some q') (kk : zV G E cn pc' lv (.ref q' :: st) (sh, I, J, R) Q) : zV G E cn pc lv (.ref q :: st) (sh, I, J, R) Q := by
  subst hp
  intro p l e s m args below meth c H locs Z ls C hH hS hl h1 h2 hR
  obtain ⟨⟨C0, T0, N0⟩, hc, hk, hw, -⟩ := hf
  refine va_get (C := C0) (T := T0) (N := N0) (D := G.2.2.1) (v := .ref (g_ad G q')) C.1 C.2.1 C.2.2.2.2.2.2.1 (g_cls hc).1 C.2.2.2.1 C.2.2.2.2.2.2.2.1 hH.2.2 q (g_ws_o hs) hc k hk (C.2.2.2.2.2.2.1 _ hw) (fun _ h => h) ?_ hd (kk p l e s m args below meth c H locs Z ls C hH hS hl h1 h2 hR)
  rw [g_fs_at hn, g_fv, hr]
  simp [hv, va_rf]
theorem g_up_o {q ci n k : Nat} {x : Int32} (hs : sh[q]? = some (0, ci, n)) (hn : k < n) (hr : g_fr ci k = false) : (g_ws G (sh, I, J, R)).set q (g_ad G q, .inr (ci, ((List.range n).map (fun k => g_fv G (sh, I, J, R) ci q k)).set k (.int x))) = g_ws G (sh, up2 I q k x, J, R) := by
  refine g_set rfl (g_lt (M := (sh, I, J, R)) hs) (fun j hj => g_cell_I (fun b => up2_ni hj)) ?_
  rw [g_cell, show ((sh, up2 I q k x, J, R) : mM).1[q]? = some (0, ci, n) from hs]
  show (g_ad G q, Sum.inr (ci, _)) = _
  rw [← g_rset (f := fun k => g_fv G (sh, I, J, R) ci q k) (g := fun b => g_fv G (sh, up2 I q k x, J, R) ci q b) hn (fun j hj => by simp only [g_fv, up2_nk hj])]
  simp only [g_fv, hr, up2_same]
  rfl
theorem g_up_r {q ci n k q' : Nat} (hs : sh[q]? = some (0, ci, n)) (hn : k < n) (hr : g_fr ci k = true) : (g_ws G (sh, I, J, R)).set q (g_ad G q, .inr (ci, ((List.range n).map (fun k => g_fv G (sh, I, J, R) ci q k)).set k (.ref (g_ad G q')))) = g_ws G (sh, I, J, up2 R q k (some q')) := by
  refine g_set rfl (g_lt (M := (sh, I, J, R)) hs) (fun j hj => g_cell_R (fun b => up2_ni hj)) ?_
  rw [g_cell, show ((sh, I, J, up2 R q k (some q')) : mM).1[q]? = some (0, ci, n) from hs]
  show (g_ad G q, Sum.inr (ci, _)) = _
  rw [← g_rset (f := fun k => g_fv G (sh, I, J, R) ci q k) (g := fun b => g_fv G (sh, I, J, up2 R q k (some q')) ci q b) hn (fun j hj => by simp only [g_fv, up2_nk hj])]
  simp only [g_fv, hr, up2_same]
  rfl
theorem z_size {p : Program} {l : Launch} {e : Env} {Rm : Room} {s : State} {m : MethodId} {args : Array Value} {below : List Frame} {meth : Method} {c : Code} {H : Heap} {locs : List Loc} {cells slots N : Nat} {Z : State → Prop} {g : JFrame} (lo : N ≤ H.size) (hi : s.heap.size + cells ≤ N) (h : H.size = N → W p l e Rm s m args below meth c H locs cells slots Z g) : W p l e Rm s m args below meth c H locs cells slots Z g := by
  intro T hT X
  have h1 := X.heapSize
  rw [hT] at h1
  exact h (by omega) T hT X
theorem z_lo {M : mM} {s : State} {H : Heap} {locs : List Loc} (hl : M.1.length ≤ 1000) (hb : G.1 ≤ s.heap.size) (hS : va_S (g_A G) s.heap H locs) (hP : va_P G.2.2.1 vwCl (g_ws G M) H) : G.1 + M.1.length ≤ H.size := by
  have h0 := hS.1
  by_cases h : M.1.length = 0
  · omega
  · have h1 := (hP (M.1.length - 1) _ (g_ws_at (by omega))).lt
    have h2 : g_ad G (M.1.length - 1) = G.1 + (M.1.length - 1) := by rw [g_ad, if_pos (by omega)]
    rw [show ((g_ad G (M.1.length - 1), g_cell G M (M.1.length - 1)) : Nat × va_E).1 = g_ad G (M.1.length - 1) from rfl, h2] at h1
    omega
/-- a store: the shape stays -/
theorem z_store {M M' : mM} {p : Program} {l : Launch} {e : Env} {s : State} {m : MethodId} {args : Array Value} {below : List Frame} {meth : Method} {c : Code} {H H1 : Heap} {locs locs1 : List Loc} {Z : State → Prop} {ls : Array Slot} (kk : zV G E cn pc' lv st M' Q) (C : g_C G E p s m args meth c) (hH : g_H G M H) (hS : g_T G M s H locs cn) (hl : lv_has ls E.2.2.1 (g_lv G lv)) (h1 : cn.1 ≤ E.2.2.2.2.1.cells) (h2 : cn.2 ≤ E.2.2.2.2.1.slots) (hR : g_R G E p l e s m args below meth c Z Q) (hs : M'.1 = M.1) (hP : va_P G.2.2.1 vwCl (g_ws G M') H1) (hS1 : va_S (g_A G) s.heap H1 locs1) : W p l e E.2.2.2.2.1 s m args below meth c H1 locs1 cn.1 cn.2 Z (F0 m pc' ls (st.map (g_tv G))) := by
  have hlen : M'.1.length ≤ 1000 := by rw [hs]; exact hH.1
  refine z_size (N := G.1 + M'.1.length) (z_lo hlen C.2.2.2.2.2.2.2.2.2.1 hS1 hP) (by rw [hs]; exact hS.2) (fun hz => ?_)
  exact kk p l e s m args below meth c H1 locs1 Z ls C ⟨hlen, hz, hP⟩ ⟨hS1, by rw [hs]; exact hS.2⟩ hl h1 h2 hR
theorem zV_puti {q idx ci n : Nat} (k : Nat) {x : Int32} (hd : decode E.2.1 pc = .ok (.putfield idx, 3)) (hp : pc + 3 = pc') (hf : g_fl E.1 idx ci k false) (hs : sh[q]? = some (0, ci, n)) (hn : k < n) (hr : g_fr ci k = false) (hna : narrow (g_fty ci k) (.int x) = .int x) (hfit : fits (g_fty ci k) (.int x) = true) (kk : zV G E cn pc' lv st (sh, up2 I q k x, J, R) Q) : zV G E cn pc lv (.int x :: .ref q :: st) (sh, I, J, R) Q := by
  subst hp
  intro p l e s m args below meth c H locs Z ls C hH hS hl h1 h2 hR
  obtain ⟨⟨C0, T0, N0⟩, hc, hk, hw, hfin, -⟩ := hf
  obtain ⟨i1, i2, i3⟩ := g_cls hc
  refine va_put (C := C0) (T := T0) (N := N0) (D := G.2.2.1) (v := .int x) C.1 C.2.1 C.2.2.2.2.2.2.1 i1 (g_fty ci) i2 i3 C.2.2.2.1 C.2.2.2.2.2.2.2.1 hH.2.2 (g_D hH.1) hS.1 q (g_ws_o hs) hc k hk (C.2.2.2.2.2.2.1 _ hw) (fun _ h => h) hfin (i2 k hk) hna hfit (by simpa using hn) hd (fun H1 locs1 hP hD hS1 => ?_)
  rw [g_up_o hs hn hr] at hP
  exact z_store kk C hH hS hl h1 h2 hR rfl hP hS1
theorem zV_putr {q q' idx ci n : Nat} (k : Nat) (hd : decode E.2.1 pc = .ok (.putfield idx, 3)) (hp : pc + 3 = pc') (hf : g_fl E.1 idx ci k false) (hs : sh[q]? = some (0, ci, n)) (hn : k < n) (hr : g_fr ci k = true) (hna : ∀ a, narrow (g_fty ci k) (.ref a) = .ref a) (hfit : ∀ a, fits (g_fty ci k) (.ref a) = true) (kk : zV G E cn pc' lv st (sh, I, J, up2 R q k (some q')) Q) : zV G E cn pc lv (.ref q' :: .ref q :: st) (sh, I, J, R) Q := by
  subst hp
  intro p l e s m args below meth c H locs Z ls C hH hS hl h1 h2 hR
  obtain ⟨⟨C0, T0, N0⟩, hc, hk, hw, hfin, -⟩ := hf
  obtain ⟨i1, i2, i3⟩ := g_cls hc
  refine va_put (C := C0) (T := T0) (N := N0) (D := G.2.2.1) (v := .ref (g_ad G q')) C.1 C.2.1 C.2.2.2.2.2.2.1 i1 (g_fty ci) i2 i3 C.2.2.2.1 C.2.2.2.2.2.2.2.1 hH.2.2 (g_D hH.1) hS.1 q (g_ws_o hs) hc k hk (C.2.2.2.2.2.2.1 _ hw) (fun _ h => h) hfin (i2 k hk) (hna _) (hfit _) (by simpa using hn) hd (fun H1 locs1 hP hD hS1 => ?_)
  rw [g_up_r hs hn hr] at hP
  exact z_store kk C hH hS hl h1 h2 hR rfl hP hS1
theorem zV_putF {q q' idx ci n : Nat} (k : Nat) (hd : decode E.2.1 pc = .ok (.putfield idx, 3)) (hp : pc + 3 = pc') (hi : E.2.2.2.2.2 = true) (hf : g_fl E.1 idx ci k true) (hs : sh[q]? = some (0, ci, n)) (hn : k < n) (hr : g_fr ci k = true) (hna : ∀ a, narrow (g_fty ci k) (.ref a) = .ref a) (hfit : ∀ a, fits (g_fty ci k) (.ref a) = true) (kk : zV G E cn pc' lv st (sh, I, J, up2 R q k (some q')) Q) : zV G E cn pc lv (.ref q' :: .ref q :: st) (sh, I, J, R) Q := by
  subst hp
  intro p l e s m args below meth c H locs Z ls C hH hS hl h1 h2 hR
  obtain ⟨⟨C0, T0, N0⟩, hc, hk, hw, hfin, hdecl⟩ := hf
  obtain ⟨i1, i2, i3⟩ := g_cls hc
  refine va_putF (C := C0) (T := T0) (N := N0) (D := G.2.2.1) (v := .ref (g_ad G q')) C.1 C.2.1 C.2.2.2.2.2.2.1 i1 (g_fty ci) i2 i3 C.2.2.2.1 C.2.2.2.2.2.2.2.1 hH.2.2 (g_D hH.1) hS.1 q (g_ws_o hs) hc k hk (C.2.2.2.2.2.2.1 _ hw) (fun _ h => h) hfin (C.2.2.2.2.2.2.2.2.2.2 hi) (hdecl rfl) (i2 k hk) (hna _) (hfit _) (by simpa using hn) hd (fun H1 locs1 hP hD hS1 => ?_)
  rw [g_up_r hs hn hr] at hP
  exact z_store kk C hH hS hl h1 h2 hR rfl hP hS1
/-! arrays -/
theorem z_in {i : Int32} {j n : Nat} (hi : i = nI j) (hj : j < n) (hN : n ≤ 100000) : vp_in i n ∧ i.toNatClampNeg = j := by
  subst hi
  exact ⟨vp_in_nI hj (by omega), nI_clamp (by omega)⟩
theorem g_ct_i (M : mM) (i : Nat) : g_ct G M 0 i = .inl (fun j => M.2.1 i j) := rfl
theorem zV_iaload {q n : Nat} {i : Int32} (j : Nat) (hd : decode E.2.1 pc = .ok (.iaload, 1)) (hp : pc + 1 = pc') (hs : sh[q]? = some (1, 0, n)) (hi : i = nI j) (hj : j < n) (hN : n ≤ 100000) (kk : zV G E cn pc' lv (.int (I q j) :: st) (sh, I, J, R) Q) : zV G E cn pc lv (.int i :: .ref q :: st) (sh, I, J, R) Q := by
  subst hp
  intro p l e s m args below meth c H locs Z ls C hH hS hl h1 h2 hR
  obtain ⟨hin, hcl⟩ := z_in hi hj hN
  refine va_iald (D := G.2.2.1) (f := fun j => I q j) C.1 C.2.1 C.2.2.2.2.2.2.2.1 hH.2.2 q 0 (g_ws_a hs) (g_tys_at (by decide)) hin hd ?_
  rw [hcl]
  exact kk p l e s m args below meth c H locs Z ls C hH hS hl h1 h2 hR
theorem zV_zaload {q n : Nat} {i : Int32} (j : Nat) (hd : decode E.2.1 pc = .ok (.baload, 1)) (hp : pc + 1 = pc') (hs : sh[q]? = some (1, 2, n)) (hi : i = nI j) (hj : j < n) (hN : n ≤ 100000) (kk : zV G E cn pc' lv (.int (I q j) :: st) (sh, I, J, R) Q) : zV G E cn pc lv (.int i :: .ref q :: st) (sh, I, J, R) Q := by
  subst hp
  intro p l e s m args below meth c H locs Z ls C hH hS hl h1 h2 hR
  obtain ⟨hin, hcl⟩ := z_in hi hj hN
  refine va_zald (D := G.2.2.1) (f := fun j => I q j) C.1 C.2.1 C.2.2.2.2.2.2.2.1 hH.2.2 q 2 (g_ws_a hs) (g_tys_at (by decide)) hin hd ?_
  rw [hcl]
  exact kk p l e s m args below meth c H locs Z ls C hH hS hl h1 h2 hR
theorem zV_laload {q n : Nat} {i : Int32} (j : Nat) (hd : decode E.2.1 pc = .ok (.laload, 1)) (hp : pc + 1 = pc') (hs : sh[q]? = some (1, 1, n)) (hi : i = nI j) (hj : j < n) (hN : n ≤ 100000) (kk : zV G E cn pc' lv (.long (J q j) :: st) (sh, I, J, R) Q) : zV G E cn pc lv (.int i :: .ref q :: st) (sh, I, J, R) Q := by
  subst hp
  intro p l e s m args below meth c H locs Z ls C hH hS hl h1 h2 hR
  obtain ⟨hin, hcl⟩ := z_in hi hj hN
  refine va_lald (D := G.2.2.1) (f := fun j => J q j) C.1 C.2.1 C.2.2.2.2.2.2.2.1 hH.2.2 q 1 (g_ws_a hs) (g_tys_at (by decide)) hin hd ?_
  rw [hcl]
  exact kk p l e s m args below meth c H locs Z ls C hH hS hl h1 h2 hR
theorem zV_aaload {q q' t n : Nat} {C0 : String} {i : Int32} (j : Nat) (hd : decode E.2.1 pc = .ok (.aaload, 1)) (hp : pc + 1 = pc') (hs : sh[q]? = some (1, t, n)) (ht : g_ty t = .object C0) (htt : 3 ≤ t ∧ t < 6) (hi : i = nI j) (hj : j < n) (hN : n ≤ 100000) (hv : R q j = some q') (kk : zV G E cn pc' lv (.ref q' :: st) (sh, I, J, R) Q) : zV G E cn pc lv (.int i :: .ref q :: st) (sh, I, J, R) Q := by
  subst hp
  intro p l e s m args below meth c H locs Z ls C hH hS hl h1 h2 hR
  obtain ⟨hin, hcl⟩ := z_in hi hj hN
  have hc : g_ct G (sh, I, J, R) t q = .inr (.inr (.inr (.inr (fun j => (R q j).map (g_ad G))))) := by
    rw [g_ct, if_neg (by omega), if_neg (by omega)]
  refine va_aldq (D := G.2.2.1) (f := fun j => (R q j).map (g_ad G)) C.1 C.2.1 C.2.2.2.2.2.2.2.1 hH.2.2 q t (by rw [g_ws_a hs, hc]) (by rw [g_tys_at (by omega), ht]) hin hd ?_
  rw [hcl, hv]
  exact kk p l e s m args below meth c H locs Z ls C hH hS hl h1 h2 hR
theorem zV_aaloadA {q q' n : Nat} {i : Int32} (j : Nat) (hd : decode E.2.1 pc = .ok (.aaload, 1)) (hp : pc + 1 = pc') (hs : sh[q]? = some (1, 6, n)) (hi : i = nI j) (hj : j < n) (hN : n ≤ 100000) (hv : R q j = some q') (kk : zV G E cn pc' lv (.ref q' :: st) (sh, I, J, R) Q) : zV G E cn pc lv (.int i :: .ref q :: st) (sh, I, J, R) Q := by
  subst hp
  intro p l e s m args below meth c H locs Z ls C hH hS hl h1 h2 hR
  obtain ⟨hin, hcl⟩ := z_in hi hj hN
  have hlt : i.toNatClampNeg < n := Nat.not_le.mp fun q => hin (Or.inr q)
  have hK := C.2.2.2.2.2.2.2.1
  have hc : g_ct G (sh, I, J, R) 6 q = .inr (.inr (.inr (.inr (fun j => (R q j).map (g_ad G))))) := rfl
  have hPq := hH.2.2 q _ (g_ws_a hs)
  rw [hc] at hPq
  refine W.aald (v := va_rf ((R q j).map (g_ad G))) (ty := .array .long) C.1 C.2.1 hPq ((hK.2 6 _ (g_tys_at (by decide))).1 n (fun j => va_rf ((R q j).map (g_ad G)))) rfl (fun q => by cases q) (by show ¬ (i < 0 ∨ (arrV _ _ _).slots.size ≤ _); rw [arrV_size]; exact hin) (by show (arrV _ _ _).slots[_]? = _; rw [arrV_read _ _ hlt, hcl]) rfl rfl hd ?_
  rw [hv]
  exact kk p l e s m args below meth c H locs Z ls C hH hS hl h1 h2 hR
theorem zV_alen {q t n : Nat} {v : Int32} (hd : decode E.2.1 pc = .ok (.arraylength, 1)) (hp : pc + 1 = pc') (hs : sh[q]? = some (1, t, n)) (ht : t < 7) (hv : nI n = v) (kk : zV G E cn pc' lv (.int v :: st) (sh, I, J, R) Q) : zV G E cn pc lv (.ref q :: st) (sh, I, J, R) Q := by
  subst hp
  intro p l e s m args below meth c H locs Z ls C hH hS hl h1 h2 hR
  exact va_alen (D := G.2.2.1) C.1 C.2.1 C.2.2.2.2.2.2.2.1 hH.2.2 q t (g_ws_a hs) (g_tys_at ht) hv hd (kk p l e s m args below meth c H locs Z ls C hH hS hl h1 h2 hR)
theorem g_up_a {q t n j : Nat} {x : Int32} (hs : sh[q]? = some (1, t, n)) (ht : t = 0 ∨ t = 2) : (g_ws G (sh, I, J, R)).set q (g_ad G q, .inl (G.2.2.2.1 t, n, .inl (upd (fun j => I q j) j x))) = g_ws G (sh, up2 I q j x, J, R) := by
  refine g_set rfl (g_lt (M := (sh, I, J, R)) hs) (fun a ha => g_cell_I (fun b => up2_ni ha)) ?_
  rw [g_cell, show ((sh, up2 I q j x, J, R) : mM).1[q]? = some (1, t, n) from hs]
  show (g_ad G q, Sum.inl (G.2.2.2.1 t, n, g_ct G (sh, up2 I q j x, J, R) t q)) = _
  rw [g_ct, if_pos ht]
  have e : (fun b => up2 I q j x q b) = upd (fun j => I q j) j x := by
    funext b
    simp [up2, upd]
  show (g_ad G q, Sum.inl (G.2.2.2.1 t, n, Sum.inl (fun b => up2 I q j x q b))) = _
  rw [e]
theorem zV_iastore {q n : Nat} {i x : Int32} (j : Nat) (hd : decode E.2.1 pc = .ok (.iastore, 1)) (hp : pc + 1 = pc') (hs : sh[q]? = some (1, 0, n)) (hi : i = nI j) (hj : j < n) (hN : n ≤ 100000) (kk : zV G E cn pc' lv st (sh, up2 I q j x, J, R) Q) : zV G E cn pc lv (.int x :: .int i :: .ref q :: st) (sh, I, J, R) Q := by
  subst hp
  intro p l e s m args below meth c H locs Z ls C hH hS hl h1 h2 hR
  obtain ⟨hin, hcl⟩ := z_in hi hj hN
  refine va_iast (D := G.2.2.1) (f := fun j => I q j) C.1 C.2.1 C.2.2.2.2.2.2.2.1 hH.2.2 (g_D hH.1) hS.1 q 0 (g_ws_a hs) (g_tys_at (by decide)) hin hd (fun H1 locs1 hP hD hS1 => ?_)
  rw [hcl, g_up_a hs (Or.inl rfl)] at hP
  exact z_store kk C hH hS hl h1 h2 hR rfl hP hS1
theorem zV_zastore {q n : Nat} {i x : Int32} (j : Nat) (hd : decode E.2.1 pc = .ok (.bastore, 1)) (hp : pc + 1 = pc') (hs : sh[q]? = some (1, 2, n)) (hi : i = nI j) (hj : j < n) (hN : n ≤ 100000) (hx : vp_nar .boolean x = x) (kk : zV G E cn pc' lv st (sh, up2 I q j x, J, R) Q) : zV G E cn pc lv (.int x :: .int i :: .ref q :: st) (sh, I, J, R) Q := by
  subst hp
  intro p l e s m args below meth c H locs Z ls C hH hS hl h1 h2 hR
  obtain ⟨hin, hcl⟩ := z_in hi hj hN
  refine va_zast (D := G.2.2.1) (f := fun j => I q j) C.1 C.2.1 C.2.2.2.2.2.2.2.1 hH.2.2 (g_D hH.1) hS.1 q 2 (g_ws_a hs) (g_tys_at (by decide)) hin hd (fun H1 locs1 hP hD hS1 => ?_)
  rw [hcl, hx, g_up_a hs (Or.inr rfl)] at hP
  exact z_store kk C hH hS hl h1 h2 hR rfl hP hS1
theorem zV_lastore {q n : Nat} {i : Int32} {x : Int64} (j : Nat) (hd : decode E.2.1 pc = .ok (.lastore, 1)) (hp : pc + 1 = pc') (hs : sh[q]? = some (1, 1, n)) (hi : i = nI j) (hj : j < n) (hN : n ≤ 100000) (kk : zV G E cn pc' lv st (sh, I, up2 J q j x, R) Q) : zV G E cn pc lv (.long x :: .int i :: .ref q :: st) (sh, I, J, R) Q := by
  subst hp
  intro p l e s m args below meth c H locs Z ls C hH hS hl h1 h2 hR
  obtain ⟨hin, hcl⟩ := z_in hi hj hN
  refine va_last (D := G.2.2.1) (f := fun j => J q j) C.1 C.2.1 C.2.2.2.2.2.2.2.1 hH.2.2 (g_D hH.1) hS.1 q 1 (g_ws_a hs) (g_tys_at (by decide)) hin hd (fun H1 locs1 hP hD hS1 => ?_)
  have e9 : (g_ws G (sh, I, J, R)).set q (g_ad G q, .inl (G.2.2.2.1 1, n, .inr (.inl (vp_updL (fun j => J q j) j x)))) = g_ws G (sh, I, up2 J q j x, R) := by
    refine g_set rfl (g_lt (M := (sh, I, J, R)) hs) (fun a ha => g_cell_L (fun b => up2_ni ha)) ?_
    rw [g_cell, show ((sh, I, up2 J q j x, R) : mM).1[q]? = some (1, 1, n) from hs]
    have e : (fun b => up2 J q j x q b) = vp_updL (fun j => J q j) j x := by
      funext b
      simp [up2, vp_updL]
    show (g_ad G q, Sum.inl (G.2.2.2.1 1, n, Sum.inr (Sum.inl (fun b => up2 J q j x q b)))) = _
    rw [e]
  rw [hcl, e9] at hP
  exact z_store kk C hH hS hl h1 h2 hR rfl hP hS1
/-! old arrays: the table ABOVE, the script, the Strings' bytes -/
theorem g_old {n : Nat} : g_ad G (1000 + n) = G.2.1 n := by rw [g_ad, if_neg (by omega), Nat.add_sub_cancel_left]
theorem z_told {ty : FieldType} {t N : Nat} {f : Nat → Value} {s : State} {H : Heap} {locs : List Loc} (h : va_T ty t N f (g_A G) s s.heap) (hS : va_S (g_A G) s.heap H locs) : ∃ cell : Cell, H[t]? = some cell ∧ s.isArrayOf cell ty ∧ cell.vm ≠ .unknown ∧ N ≤ cell.slots.size ∧ cell.slots.size.toInt32 = Int32.ofNat N ∧ (∀ j : Nat, j < N → cell.slots[j]? = some (f j)) := by
  obtain ⟨cell, a1, a2, a3, a4, a5, a6, -⟩ := h.kept hS.2.1
  exact ⟨cell, a1, a2, a3, a4, a5, a6⟩
theorem zV_above {M : mM} {i : Int32} (j : Nat) (hd : decode E.2.1 pc = .ok (.iaload, 1)) (hp : pc + 1 = pc') (hi : i = nI j) (hj : j < 7) (kk : zV G E cn pc' lv (.int (g_above j) :: st) M Q) : zV G E cn pc lv (.int i :: .ref 1300 :: st) M Q := by
  subst hp
  intro p l e s m args below meth c H locs Z ls C hH hS hl h1 h2 hR
  obtain ⟨hin, hcl⟩ := z_in (n := 7) hi hj (by decide)
  obtain ⟨cell, a1, a2, a3, a4, a5, a6⟩ := z_told C.2.2.2.2.2.2.2.2.1.2.2.2.1 hS.1
  refine W.iald (v := .int (g_above j)) C.1 C.2.1 (a := g_ad G 1300) (by rw [show (1300 : Nat) = 1000 + 300 from rfl, g_old]; exact a1) a2 a3 (fun z => hin (z.imp id (fun z => Nat.le_trans a4 z))) (by rw [hcl]; exact a6 j hj) rfl rfl hd ?_
  exact kk p l e s m args below meth c H locs Z ls C hH hS hl h1 h2 hR
theorem zV_script {M : mM} {i : Int32} (j : Nat) (hd : decode E.2.1 pc = .ok (.iaload, 1)) (hp : pc + 1 = pc') (hi : i = nI j) (hj : j < G.2.2.2.2.1) (hN : G.2.2.2.2.1 ≤ 100000) (kk : zV G E cn pc' lv (.int (G.2.2.2.2.2 j) :: st) M Q) : zV G E cn pc lv (.int i :: .ref 1301 :: st) M Q := by
  subst hp
  intro p l e s m args below meth c H locs Z ls C hH hS hl h1 h2 hR
  obtain ⟨hin, hcl⟩ := z_in hi hj hN
  obtain ⟨cell, a1, a2, a3, a4, a5, a6⟩ := z_told C.2.2.2.2.2.2.2.2.1.2.2.2.2.2.1 hS.1
  refine W.iald (v := .int (G.2.2.2.2.2 j)) C.1 C.2.1 (a := g_ad G 1301) (by rw [show (1301 : Nat) = 1000 + 301 from rfl, g_old]; exact a1) a2 a3 (fun z => hin (z.imp id (fun z => Nat.le_trans a4 z))) (by rw [hcl]; exact a6 j hj) rfl rfl hd ?_
  exact kk p l e s m args below meth c H locs Z ls C hH hS hl h1 h2 hR
theorem zV_scriptLen {M : mM} (hd : decode E.2.1 pc = .ok (.arraylength, 1)) (hp : pc + 1 = pc') (kk : zV G E cn pc' lv (.int (nI G.2.2.2.2.1) :: st) M Q) : zV G E cn pc lv (.ref 1301 :: st) M Q := by
  subst hp
  intro p l e s m args below meth c H locs Z ls C hH hS hl h1 h2 hR
  obtain ⟨cell, a1, a2, a3, a4, a5, a6⟩ := z_told C.2.2.2.2.2.2.2.2.1.2.2.2.2.2.1 hS.1
  exact W.alen (n := nI G.2.2.2.2.1) C.1 C.2.1 (a := g_ad G 1301) (by rw [show (1301 : Nat) = 1000 + 301 from rfl, g_old]; exact a1) a2 a5 rfl rfl hd (kk p l e s m args below meth c H locs Z ls C hH hS hl h1 h2 hR)
theorem zV_strByte {M : mM} {i : Int32} (t j : Nat) (ht : t < 11) (hd : decode E.2.1 pc = .ok (.baload, 1)) (hp : pc + 1 = pc') (hi : i = nI j) (hj : j < g_len.getD t 0) (hN : g_len.getD t 0 ≤ 100000) (kk : zV G E cn pc' lv (.int ((g_byt.getD t []).getD j 0) :: st) M Q) : zV G E cn pc lv (.int i :: .ref (1100 + t) :: st) M Q := by
  subst hp
  intro p l e s m args below meth c H locs Z ls C hH hS hl h1 h2 hR
  obtain ⟨hin, hcl⟩ := z_in hi hj hN
  obtain ⟨cell, a1, a2, a3, a4, a5, a6⟩ := z_told (C.2.2.2.2.2.2.2.2.1.1.1 t ht).2.2.2 hS.1
  refine W.bald (v := .int ((g_byt.getD t []).getD j 0)) C.1 C.2.1 (a := g_ad G (1100 + t)) (by rw [show (1100 + t : Nat) = 1000 + (100 + t) by omega, g_old]; exact a1) a2 a3 (fun z => hin (z.imp id (fun z => Nat.le_trans a4 z))) (by rw [hcl]; exact a6 j hj) rfl rfl hd ?_
  exact kk p l e s m args below meth c H locs Z ls C hH hS hl h1 h2 hR
theorem zV_strLen {M : mM} (t : Nat) (ht : t < 11) (hd : decode E.2.1 pc = .ok (.arraylength, 1)) (hp : pc + 1 = pc') (kk : zV G E cn pc' lv (.int (nI (g_len.getD t 0)) :: st) M Q) : zV G E cn pc lv (.ref (1100 + t) :: st) M Q := by
  subst hp
  intro p l e s m args below meth c H locs Z ls C hH hS hl h1 h2 hR
  obtain ⟨cell, a1, a2, a3, a4, a5, a6⟩ := z_told (C.2.2.2.2.2.2.2.2.1.1.1 t ht).2.2.2 hS.1
  exact W.alen (n := nI (g_len.getD t 0)) C.1 C.2.1 (a := g_ad G (1100 + t)) (by rw [show (1100 + t : Nat) = 1000 + (100 + t) by omega, g_old]; exact a1) a2 a5 rfl rfl hd (kk p l e s m args below meth c H locs Z ls C hH hS hl h1 h2 hR)
theorem zV_strVal {M : mM} {idx : Nat} (t : Nat) (ht : t < 11) (hd : decode E.2.1 pc = .ok (.getfield idx, 3)) (hp : pc + 3 = pc') (hw : Cond.fieldLink E.1 idx "java/lang/String" "value" "[B" ∈ tG) (kk : zV G E cn pc' lv (.ref (1100 + t) :: st) M Q) : zV G E cn pc lv (.ref (1000 + t) :: st) M Q := by
  subst hp
  intro p l e s m args below meth c H locs Z ls C hH hS hl h1 h2 hR
  have h9 := kk p l e s m args below meth c H locs Z ls C hH hS hl h1 h2 hR
  rw [List.map_cons, show g_tv G (.ref (1100 + t)) = .ref (g_ad G (1100 + t)) from rfl, show (1100 + t : Nat) = 1000 + (100 + t) by omega, g_old] at h9
  rw [List.map_cons, show g_tv G (.ref (1000 + t)) = .ref (g_ad G (1000 + t)) from rfl, g_old]
  exact vk_getf C.1 C.2.1 (C.2.2.2.2.2.2.2.2.1.1.1 t ht).2.2.1 hS.1 C.2.2.2.1 (C.2.2.2.2.2.2.1 _ hw) (fun _ h => h) hd h9
theorem zV_strCoder {M : mM} {idx : Nat} (t : Nat) (ht : t < 11) (hd : decode E.2.1 pc = .ok (.getfield idx, 3)) (hp : pc + 3 = pc') (hw : Cond.fieldLink E.1 idx "java/lang/String" "coder" "B" ∈ tG) (kk : zV G E cn pc' lv (.int 0 :: st) M Q) : zV G E cn pc lv (.ref (1000 + t) :: st) M Q := by
  subst hp
  intro p l e s m args below meth c H locs Z ls C hH hS hl h1 h2 hR
  rw [List.map_cons, show g_tv G (.ref (1000 + t)) = .ref (g_ad G (1000 + t)) from rfl, g_old]
  exact vk_getf C.1 C.2.1 (C.2.2.2.2.2.2.2.2.1.1.1 t ht).2.1 hS.1 C.2.2.2.1 (C.2.2.2.2.2.2.1 _ hw) (fun _ h => h) hd (kk p l e s m args below meth c H locs Z ls C hH hS hl h1 h2 hR)
/-! statics -/
theorem zV_gsAbove {M : mM} {idx : Nat} (hd : decode E.2.1 pc = .ok (.getstatic idx, 3)) (hp : pc + 3 = pc') (hw : Cond.fieldLinkNest E.1 idx "TurningCoins" "ABOVE" "[I" "TurningCoins" ∈ g_nest) (kk : zV G E cn pc' lv (.ref 1300 :: st) M Q) : zV G E cn pc lv st M Q := by
  subst hp
  intro p l e s m args below meth c H locs Z ls C hH hS hl h1 h2 hR
  have h9 := kk p l e s m args below meth c H locs Z ls C hH hS hl h1 h2 hR
  rw [List.map_cons, show g_tv G (.ref 1300) = .ref (g_ad G (1000 + 300)) from rfl, g_old] at h9
  exact va_getsN C.1 C.2.1 C.2.2.2.2.2.2.2.2.1.2.2.1 hS.1 C.2.2.2.1 (va_Nw.use rfl (C.2.2.2.2.2.2.2.2.1.2.2.2.2.2.2.1 _ hw)) (fun _ h => h) hd h9
theorem zV_gsCompact {M : mM} {idx : Nat} (hd : decode E.2.1 pc = .ok (.getstatic idx, 3)) (hp : pc + 3 = pc') (hw : Cond.fieldLink E.1 idx "java/lang/String" "COMPACT_STRINGS" "Z" ∈ tG) (kk : zV G E cn pc' lv (.int 1 :: st) M Q) : zV G E cn pc lv st M Q := by
  subst hp
  intro p l e s m args below meth c H locs Z ls C hH hS hl h1 h2 hR
  exact va_gets C.1 C.2.1 C.2.2.2.2.2.2.2.2.1.2.2.2.2.1 hS.1 C.2.2.2.1 (C.2.2.2.2.2.2.1 _ hw) (fun _ h => h) hd (kk p l e s m args below meth c H locs Z ls C hH hS hl h1 h2 hR)
theorem zV_copyi {q0 q1 n0 n1 idx : Nat} {a b d : Int32} (ja jb jd : Nat) (hd : decode E.2.1 pc = .ok (.invokestatic idx, 3)) (hp : pc + 3 = pc') (hw : Cond.methodLink E.1 idx arraycopyName ∈ tG ∧ Cond.native arraycopyName ∈ tG ∧ Cond.static arraycopyName ∈ tG ∧ Cond.initialized "java/lang/System" ∈ tG) (hs0 : sh[q0]? = some (1, 0, n0)) (hs1 : sh[q1]? = some (1, 0, n1)) (ha : a = nI ja) (hb : b = nI jb) (he : d = nI jd) (g0 : ja + jd ≤ n0) (g1 : jb + jd ≤ n1) (hN0 : n0 ≤ 100000) (hN1 : n1 ≤ 100000) (hf : 1 ≤ E.2.2.2.2.1.frames) (hlo : (st.map fun v => v.category).sum + (nativeFrameWords "java/lang/System" "arraycopy" 5 + 11) ≤ E.2.2.2.2.1.locals)
    (kk : zV G E cn pc' lv st (sh, (fun u v => if u = q1 then va_cpy (fun j => I q0 j) (fun j => I q1 j) ja jb jd v else I u v), J, R) Q) : zV G E cn pc lv (.int d :: .int b :: .ref q1 :: .int a :: .ref q0 :: st) (sh, I, J, R) Q := by
  subst hp ha hb he
  intro p l e s m args below meth c H locs Z ls C hH hS hl h1 h2 hR
  have z0 : ∀ n : Nat, n ≤ 100000 → ¬ nI n < 0 ∧ (nI n).toNatClampNeg = n := fun n h => ⟨nI_pos (by omega), nI_clamp (by omega)⟩
  obtain ⟨a1, a2⟩ := z0 ja (by omega)
  obtain ⟨b1, b2⟩ := z0 jb (by omega)
  obtain ⟨d1, d2⟩ := z0 jd (by omega)
  refine va_copyi (D := G.2.2.1) (f := fun j => I q0 j) (g := fun j => I q1 j) C.1 C.2.1 (by rw [C.2.2.1, hl.1]) C.2.2.2.1 (C.2.2.2.2.2.2.1 _ hw.1) (C.2.2.2.2.2.2.1 _ hw.2.1) (C.2.2.2.2.2.2.1 _ hw.2.2.1) (C.2.2.2.2.2.2.1 _ hw.2.2.2) C.2.2.2.2.2.2.2.1 hH.2.2 (g_D hH.1) hS.1 q0 q1 0 0 (g_ws_a hs0) (g_ws_a hs1) (g_tys_at (by decide)) (g_tys_at (by decide)) rfl a1 b1 d1 (by rw [a2, d2]; exact g0) (by rw [b2, d2]; exact g1) (fun i _ => rfl) hf (by simpa [g_cat, Function.comp_def] using hlo) hd (fun H1 locs1 hP hD hS1 => ?_)
  rw [a2, b2, d2] at hP
  have e9 : (g_ws G (sh, I, J, R)).set q1 (g_ad G q1, .inl (G.2.2.2.1 0, n1, .inl (va_cpy (fun j => I q0 j) (fun j => I q1 j) ja jb jd))) = g_ws G (sh, (fun u v => if u = q1 then va_cpy (fun j => I q0 j) (fun j => I q1 j) ja jb jd v else I u v), J, R) := by
    refine g_set rfl (g_lt (M := (sh, I, J, R)) hs1) (fun a ha => g_cell_I (fun b => by simp [ha])) ?_
    rw [g_cell, show ((sh, (fun u v => if u = q1 then va_cpy (fun j => I q0 j) (fun j => I q1 j) ja jb jd v else I u v), J, R) : mM).1[q1]? = some (1, 0, n1) from hs1]
    show (g_ad G q1, Sum.inl (G.2.2.2.1 0, n1, Sum.inl (fun b => if q1 = q1 then va_cpy (fun j => I q0 j) (fun j => I q1 j) ja jb jd b else I q1 b))) = _
    simp
  rw [e9] at hP
  exact z_store kk C hH hS hl h1 h2 hR rfl hP hS1
end ZH
