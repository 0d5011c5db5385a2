/-! NEW CELLS -/
theorem vr_outer (c : ClassId) (N h0 : Nat) : ∀ i : Nat, Jvm.Free.Multi.outerC c N h0 i = arrV c N (fun j => va_rf (if j < i then some (h0 + 1 + j) else none))
  | 0 => by
    show ({ cls := c, slots := Array.replicate N .null, vm := .none } : Cell) = _
    rw [arrV_new]
    refine congrArg (arrV c N) (funext fun j => ?_)
    simp [va_rf]
  | i + 1 => by
    show (Jvm.Free.Multi.outerC c N h0 i).setSlot i (.ref (h0 + 1 + i)) = _
    rw [vr_outer c N h0 i, arrV_store]
    refine congrArg (arrV c N) (funext fun j => ?_)
    by_cases e : j = i
    · subst e
      simp [updV, va_rf]
    · by_cases h : j < i
      · simp [updV, e, h, Nat.lt_succ_of_lt h]
      · simp [updV, e, h, show ¬ j < i + 1 by omega]
def g_new (M : mM) : Prop := ∀ i, M.1.length ≤ i → ∀ k, M.2.1 i k = 0 ∧ M.2.2.1 i k = 0 ∧ M.2.2.2 i k = none
theorem g_cell_app {G : mG} {sh : List (Nat × Nat × Nat)} {xs : List (Nat × Nat × Nat)} {I : Nat → Nat → Int32} {J : Nat → Nat → Int64} {R : Nat → Nat → Option Nat} {i : Nat} (h : i < sh.length) : g_cell G (sh ++ xs, I, J, R) i = g_cell G (sh, I, J, R) i := by
  have e : (sh ++ xs)[i]? = sh[i]? := List.getElem?_append_left h
  unfold g_cell
  simp only [e]
  rfl
/-- more cells behind: each by its place -/
theorem g_P_app {G : mG} {sh xs : List (Nat × Nat × Nat)} {I : Nat → Nat → Int32} {J : Nat → Nat → Int64} {R R' : Nat → Nat → Option Nat} {H H1 : Heap} (hP : va_P G.2.2.1 vwCl (g_ws G (sh, I, J, R)) H) (ho : ∀ q, q < H.size → H1[q]? = H[q]?) (hr : ∀ i, i < sh.length → ∀ b, R' i b = R i b) (hx : ∀ i, i < xs.length → va_at G.2.2.1 vwCl (g_ad G (sh.length + i), g_cell G (sh ++ xs, I, J, R') (sh.length + i)) H1) : va_P G.2.2.1 vwCl (g_ws G (sh ++ xs, I, J, R')) H1 := by
  intro k q hq
  have hk : k < (sh ++ xs).length := by
    have := (List.getElem?_eq_some_iff.mp hq).1
    rw [g_ws_len] at this
    exact this
  rw [g_ws_at (M := (sh ++ xs, I, J, R')) hk] at hq
  cases hq
  by_cases h : k < sh.length
  · rw [g_cell_app h, g_cell_R (R := R) (fun b => hr k h b)]
    have hold := hP k _ (g_ws_at (M := (sh, I, J, R)) h)
    exact hold.kept (ho _ hold.lt)
  · rw [List.length_append] at hk
    have e : k = sh.length + (k - sh.length) := by omega
    rw [e]
    exact hx (k - sh.length) (by omega)
section ZN
variable {G : mG} {E E' : mE} {cn : Nat × Nat} {pc pc' : Nat} {lv lv' : List (Nat × Value)} {st st0 : List Value} {Q Q' : Option Value → mM → Prop}
variable {sh : List (Nat × Nat × Nat)} {I : Nat → Nat → Int32} {J : Nat → Nat → Int64} {R : Nat → Nat → Option Nat}
theorem z_ad {n : Nat} (h : n < 1000) : g_ad G n = G.1 + n := by rw [g_ad, if_pos h]
theorem zV_objInit {q idx : Nat} (hd : decode E.2.1 pc = .ok (.invokespecial idx, 3)) (hp : pc + 3 = pc') (hw : Cond.methodLink E.1 idx objectInit ∈ tG ∧ Cond.instanceMethod objectInit ∈ tG ∧ Cond.code objectInit ⟨#[0xb1]⟩ 1 none ∈ tG) (hf : 1 ≤ E.2.2.2.2.1.frames) (hlo : (st.map fun v => v.category).sum + 12 ≤ E.2.2.2.2.1.locals) {M : mM} (kk : zV G E cn pc' lv st M Q) : zV G E cn pc lv (.ref q :: st) M Q := by
  subst hp
  intro p l e s m args below meth c H locs Z ls C hH hS hl h1 h2 hR
  have e9 : ((st.map (g_tv G)).map fun v => v.category) = st.map fun v => v.category := by
    rw [List.map_map]
    apply List.map_congr_left
    intro v _
    exact g_cat G v
  refine W.objInit C.1 C.2.1 C.2.2.2.1 (C.2.2.2.2.2.2.1 _ hw.1) (C.2.2.2.2.2.2.1 _ hw.2.1) (C.2.2.2.2.2.2.1 _ hw.2.2) rfl (by rw [C.2.2.1]; exact hl.1) rfl hd hf (by rw [e9]; exact (by simpa [JFrame.monitorRoom] using hlo)) ?_
  exact kk p l e s m args below meth c H locs Z ls C hH hS hl h1 h2 hR
theorem zV_new {idx ci N : Nat} {C0 : String} {T0 : u_T} (hd : decode E.2.1 pc = .ok (.new idx, 3)) (hp : pc + 3 = pc') (hw : Cond.classLink E.1 idx C0 ∈ tG ∧ Cond.instantiable C0 N ∈ tG ∧ Cond.initialized C0 ∈ tG) (hc : vwCl[ci]? = some (C0, T0, N)) (hdef : ∀ j, j < N → defaultValue (g_fty ci j) = if g_fr ci j then .null else .int 0) (hnew : g_new (sh, I, J, R)) (hlen : sh.length < 1000) (hroom : cn.1 + 1 ≤ E.2.2.2.2.1.cells ∧ cn.2 + N ≤ E.2.2.2.2.1.slots) (kk : zV G E (cn.1 + 1, cn.2 + N) pc' lv (.ref sh.length :: st) (sh ++ [(0, ci, N)], I, J, R) Q) : zV G E cn pc lv st (sh, I, J, R) Q := by
  subst hp
  intro p l e s m args below meth c H locs Z ls C hH hS hl h1 h2 hR
  have hKn := C.2.2.2.2.2.2.2.1.1 ci _ hc
  have hsz : H.size = G.1 + sh.length := hH.2.1
  refine W.newcK (h := H.size) C.1 C.2.1 C.2.2.2.1 (C.2.2.2.2.2.2.1 _ hw.1) (C.2.2.2.2.2.2.1 _ hw.2.1) (C.2.2.2.2.2.2.1 _ hw.2.2) rfl hd hroom.1 hroom.2 hKn.2.1 rfl fun H1 kC hkC e1 z1 o1 => ?_
  have hP1 : va_P G.2.2.1 vwCl (g_ws G (sh ++ [(0, ci, N)], I, J, R)) H1 := by
    refine g_P_app hH.2.2 o1 (fun _ _ _ => rfl) (fun i hi => ?_)
    have hi0 : i = 0 := by simpa using hi
    subst hi0
    rw [Nat.add_zero, z_ad hlen, ← hsz, g_cell, show ((sh ++ [(0, ci, N)], I, J, R) : mM).1[sh.length]? = some (0, ci, N) by simp]
    refine ⟨_, hc, (u_born (g_fty ci) C.2.2.2.2.2.2.1 (g_cls hc).1 hKn hkC e1 (g_cls hc).2.1).to (fun j hj => ?_)⟩
    rw [hdef j hj, vp_V, List.getD_eq_getElem?_getD, g_fs_at (M := (sh ++ [(0, ci, N)], I, J, R)) hj, Option.getD_some, g_fv]
    have hn := hnew sh.length (Nat.le_refl _) j
    by_cases hf : g_fr ci j = true
    · rw [if_pos hf, if_pos hf, show ((sh ++ [(0, ci, N)], I, J, R) : mM).2.2.2 sh.length j = none from hn.2.2]
      rfl
    · rw [if_neg hf, if_neg hf, show ((sh ++ [(0, ci, N)], I, J, R) : mM).2.1 sh.length j = 0 from hn.1]
  have h9 := kk p l e s m args below meth c H1 locs Z ls C ⟨by simp; omega, by rw [z1, hsz]; simp; omega, hP1⟩ ⟨⟨Nat.le_trans hS.1.1 (by omega), fun x g1 g2 => (o1 x (Nat.lt_of_lt_of_le g1 hS.1.1)).trans (hS.1.2.1 x g1 g2), hS.1.2.2⟩, by have := hS.2; simp at this ⊢; omega⟩ hl hroom.1 hroom.2 hR
  rw [List.map_cons, show g_tv G (.ref sh.length) = .ref (g_ad G sh.length) from rfl, z_ad hlen, ← hsz] at h9
  exact h9
theorem zV_newa {atype : ArrayType} {t N : Nat} {n : Int32} (hd : decode E.2.1 pc = .ok (.newarray atype, 2)) (hp : pc + 2 = pc') (hw : Cond.arrayClass (newarray.typeOf atype) ∈ tG) (ht : g_ty t = newarray.typeOf atype) (htt : t = 0 ∨ t = 1 ∨ t = 2) (hn : n = nI N) (hN : N ≤ 100000) (hnew : g_new (sh, I, J, R)) (hlen : sh.length < 1000) (hroom : cn.1 + 1 ≤ E.2.2.2.2.1.cells ∧ cn.2 + N ≤ E.2.2.2.2.1.slots) (kk : zV G E (cn.1 + 1, cn.2 + N) pc' lv (.ref sh.length :: st) (sh ++ [(1, t, N)], I, J, R) Q) : zV G E cn pc lv (.int n :: st) (sh, I, J, R) Q := by
  subst hp hn
  intro p l e s m args below meth c H locs Z ls C hH hS hl h1 h2 hR
  have hsz : H.size = G.1 + sh.length := hH.2.1
  have hb : N * componentBytes (newarray.typeOf atype) ≤ 536870912 := by
    have h8 : componentBytes (newarray.typeOf atype) ≤ 8 := by cases atype <;> decide
    calc N * componentBytes (newarray.typeOf atype) ≤ 100000 * 8 := Nat.mul_le_mul hN h8
      _ ≤ 536870912 := by decide
  refine va_newaK (N := N) (h := H.size) C.1 C.2.1 (C.2.2.2.2.2.2.1 _ hw) rfl hd rfl (nI_pos (by omega)) (nI_clamp (by omega)) hb hroom.1 hroom.2 rfl fun H1 cA e1 z1 o1 hAr hNm => ?_
  have hcA : cA = G.2.2.2.1 t := by
    have h5 := (C.2.2.2.2.2.2.2.1.2 t _ (g_tys_at (by omega))).2
    rcases htt with rfl | rfl | rfl
    all_goals
      rw [← ht] at hNm
      exact Option.some.inj (hNm.symm.trans h5)
  have hP1 : va_P G.2.2.1 vwCl (g_ws G (sh ++ [(1, t, N)], I, J, R)) H1 := by
    refine g_P_app hH.2.2 o1 (fun _ _ _ => rfl) (fun i hi => ?_)
    have hi0 : i = 0 := by simpa using hi
    subst hi0
    rw [Nat.add_zero, z_ad hlen, ← hsz, g_cell, show ((sh ++ [(1, t, N)], I, J, R) : mM).1[sh.length]? = some (1, t, N) by simp]
    show H1[H.size]? = some (vp_cell (G.2.2.2.1 t) (N, g_ct G (sh ++ [(1, t, N)], I, J, R) t sh.length))
    rw [e1, hcA, ← ht]
    have n1 : (fun j => I sh.length j) = fun _ => 0 := funext fun j => (hnew sh.length (Nat.le_refl _) j).1
    have n2 : (fun j => J sh.length j) = fun _ => 0 := funext fun j => (hnew sh.length (Nat.le_refl _) j).2.1
    rcases htt with rfl | rfl | rfl
    · show _ = some (vp_cell _ (N, .inl (fun j => I sh.length j)))
      rw [n1]
      rfl
    · show _ = some (vp_cell _ (N, .inr (.inl (fun j => J sh.length j))))
      rw [n2]
      rfl
    · show _ = some (vp_cell _ (N, .inl (fun j => I sh.length j)))
      rw [n1]
      rfl
  have h9 := kk p l e s m args below meth c H1 locs Z ls C ⟨by simp; omega, by rw [z1, hsz]; simp; omega, hP1⟩ ⟨⟨Nat.le_trans hS.1.1 (by omega), fun x g1 g2 => (o1 x (Nat.lt_of_lt_of_le g1 hS.1.1)).trans (hS.1.2.1 x g1 g2), hS.1.2.2⟩, by have := hS.2; simp at this ⊢; omega⟩ hl hroom.1 hroom.2 hR
  rw [List.map_cons, show g_tv G (.ref sh.length) = .ref (g_ad G sh.length) from rfl, z_ad hlen, ← hsz] at h9
  exact h9
theorem zV_newq {C0 : String} {idx t N : Nat} {n : Int32} (hd : decode E.2.1 pc = .ok (.anewarray idx, 3)) (hp : pc + 3 = pc') (hw : Cond.classLink E.1 idx C0 ∈ tG) (hC0 : C0 ∈ ["TurningCoins$Coin", "TurningCoins$Sheet", "java/lang/String"]) (ht : g_ty t = .object C0) (htt : 3 ≤ t ∧ t < 6) (hn : n = nI N) (hN : N ≤ 100000) (hnew : g_new (sh, I, J, R)) (hlen : sh.length < 1000) (hroom : cn.1 + 1 ≤ E.2.2.2.2.1.cells ∧ cn.2 + N ≤ E.2.2.2.2.1.slots) (kk : zV G E (cn.1 + 1, cn.2 + N) pc' lv (.ref sh.length :: st) (sh ++ [(1, t, N)], I, J, R) Q) : zV G E cn pc lv (.int n :: st) (sh, I, J, R) Q := by
  subst hp hn
  intro p l e s m args below meth c H locs Z ls C hH hS hl h1 h2 hR
  have hsz : H.size = G.1 + sh.length := hH.2.1
  have cl : (nI N).toNatClampNeg = N := nI_clamp (by omega)
  refine W.anew C.1 C.2.1 C.2.2.2.1 (C.2.2.2.2.2.2.1 _ hw) (va_AO.use (C.2.2.2.2.2.2.2.2.1.2.2.2.2.2.2.2.1 C0 hC0)) rfl hd rfl (nI_pos (by omega)) (by rw [cl]; omega) hroom.1 (by rw [cl]; exact hroom.2) fun cA kA comp f1 f2 f3 f4 => ?_
  rw [cl]
  generalize hH1 : H.push ({ cls := cA, slots := Array.replicate N .null, vm := .none } : Cell) = H1
  have z1 : H1.size = H.size + 1 := by rw [← hH1, Array.size_push]
  have e1 : H1[H.size]? = some (arrV cA N (fun _ => .null)) := by rw [← hH1, Array.getElem?_push_size, ← arrV_new]
  have o1 : ∀ q : Nat, q < H.size → H1[q]? = H[q]? := fun q hq => by rw [← hH1, Array.getElem?_push, if_neg (Nat.ne_of_lt hq)]
  have hcA : cA = G.2.2.2.1 t := by
    have h5 := (C.2.2.2.2.2.2.2.1.2 t _ (g_tys_at (by omega))).2
    rw [ht] at h5
    obtain ⟨kA', comp', -, -, -, g4⟩ := h5
    exact Option.some.inj (f1.symm.trans g4)
  have hP1 : va_P G.2.2.1 vwCl (g_ws G (sh ++ [(1, t, N)], I, J, R)) H1 := by
    refine g_P_app hH.2.2 o1 (fun _ _ _ => rfl) (fun i hi => ?_)
    have hi0 : i = 0 := by simpa using hi
    subst hi0
    rw [Nat.add_zero, z_ad hlen, ← hsz, g_cell, show ((sh ++ [(1, t, N)], I, J, R) : mM).1[sh.length]? = some (1, t, N) by simp]
    show H1[H.size]? = some (vp_cell (G.2.2.2.1 t) (N, g_ct G (sh ++ [(1, t, N)], I, J, R) t sh.length))
    rw [e1, hcA, g_ct, if_neg (by omega), if_neg (by omega)]
    have n3 : (fun j => (R sh.length j).map (g_ad G)) = fun _ => none := funext fun j => by
      rw [show R sh.length j = none from (hnew sh.length (Nat.le_refl _) j).2.2]
      rfl
    show _ = some (vp_cell _ (N, .inr (.inr (.inr (.inr (fun j => (R sh.length j).map (g_ad G)))))))
    rw [n3, vp_cell_q]
    rfl
  have h9 := kk p l e s m args below meth c H1 locs Z ls C ⟨by simp; omega, by rw [z1, hsz]; simp; omega, hP1⟩ ⟨⟨Nat.le_trans hS.1.1 (by omega), fun x g1 g2 => (o1 x (Nat.lt_of_lt_of_le g1 hS.1.1)).trans (hS.1.2.1 x g1 g2), hS.1.2.2⟩, by have := hS.2; simp at this ⊢; omega⟩ hl hroom.1 hroom.2 hR
  rw [List.map_cons, show g_tv G (.ref sh.length) = .ref (g_ad G sh.length) from rfl, z_ad hlen, ← hsz] at h9
  exact h9
theorem zV_multi {idx N K : Nat} {n k : Int32} (hd : decode E.2.1 pc = .ok (.multianewarray idx 2, 4)) (hp : pc + 4 = pc') (hw : Cond.classLink E.1 idx "[[J" ∈ tG ∧ Cond.arrayClass .long ∈ tG) (hn : n = nI N) (hk : k = nI K) (hN : N ≤ 1000) (hK : K ≤ 1000) (hnew : g_new (sh, I, J, R)) (hlen : sh.length + 1 + N < 1000) (hroom : cn.1 + (1 + N) ≤ E.2.2.2.2.1.cells ∧ cn.2 + (N + N * K) ≤ E.2.2.2.2.1.slots)
    (kk : zV G E (cn.1 + 1 + N, cn.2 + N + N * K) pc' lv (.ref sh.length :: st) (sh ++ ((1, 6, N) :: List.replicate N (1, 1, K)), I, J, (fun a b => if a = sh.length then (if b < N then some (sh.length + 1 + b) else none) else R a b)) Q) : zV G E cn pc lv (.int k :: .int n :: st) (sh, I, J, R) Q := by
  subst hp hn hk
  intro p l e s m args below meth c H locs Z ls C hH hS hl h1 h2 hR
  have hsz : H.size = G.1 + sh.length := hH.2.1
  have clN : (nI N).toNatClampNeg = N := nI_clamp (by omega)
  have clK : (nI K).toNatClampNeg = K := nI_clamp (by omega)
  intro T hT Xs
  obtain ⟨vm₁, cA, comp, -, fA, fC, hO, -, X', step⟩ := Xs.multianewarray2F (ty := .long) C.1 C.2.2.2.1 (C.2.2.2.2.2.2.1 _ hw.1) (va_AOA.use C.2.2.2.2.2.2.2.2.1.2.2.2.2.2.2.2.2.1) (C.2.2.2.2.2.2.1 _ hw.2) (g := F0 m pc ls (.int (nI K) :: .int (nI N) :: st.map (g_tv G))) rfl (by rw [C.2.1]; exact hd) rfl (nI_pos (by omega)) (nI_pos (by omega)) (by rw [clN]; omega) (by rw [clK]; exact Nat.le_trans (Nat.mul_le_mul hK (show componentBytes .long ≤ 8 by decide)) (by decide)) (by rw [clK]; omega) rfl rfl (by rw [clN]; exact hroom.1) (by rw [clN, clK]; exact hroom.2)
  rw [clN, clK] at X' step
  have hc1 : comp = G.2.2.2.1 1 := by
    have h5 : s.vm.findClass ("[" ++ FieldType.long.toString) = some (G.2.2.2.1 1) := (C.2.2.2.2.2.2.2.1.2 1 _ (g_tys_at (by decide))).2
    exact Option.some.inj (fC.symm.trans h5)
  have hc6 : cA = G.2.2.2.1 6 := by
    have h5 : s.vm.findClass ("[" ++ (FieldType.array .long).toString) = some (G.2.2.2.1 6) := (C.2.2.2.2.2.2.2.1.2 6 _ (g_tys_at (by decide))).2
    exact Option.some.inj (fA.symm.trans h5)
  subst hc1 hc6
  generalize hF : Jvm.Free.Multi.fill (T.setVm vm₁) (G.2.2.2.1 6) (G.2.2.2.1 1) N K (defaultValue .long) N = F at X' step
  have hTh : (T.setVm vm₁).heap = H := hT
  obtain ⟨f1, f2, -, -⟩ := Jvm.Free.Multi.fill_facts (T.setVm vm₁) (G.2.2.2.1 6) (G.2.2.2.1 1) N K (defaultValue .long) N
  rw [hF, hTh] at f1 f2
  have hold : ∀ x : Nat, x < H.size → F.heap[x]? = H[x]? := fun x hx => by
    have := Jvm.Free.Multi.fill_old (T.setVm vm₁) (G.2.2.2.1 6) (G.2.2.2.1 1) N K (defaultValue .long) (a := x) (by rw [hTh]; exact hx) N
    rw [hF, hTh] at this
    exact this
  have hrow : ∀ j : Nat, j < N → F.heap[H.size + 1 + j]? = some (vp_cell (G.2.2.2.1 1) (K, .inr (.inl (fun _ => 0)))) := fun j hj => by
    have := Jvm.Free.Multi.fill_inner (T.setVm vm₁) (G.2.2.2.1 6) (G.2.2.2.1 1) N K (defaultValue .long) N j hj
    rw [hF, hTh] at this
    rw [this, vp_cell_l, ← arrV_new]
    rfl
  have hout : Jvm.Free.Multi.outerC (G.2.2.2.1 6) N H.size N = vp_cell (G.2.2.2.1 6) (N, .inr (.inr (.inr (.inr (fun i => if i < N then some (H.size + 1 + i) else none))))) := by
    rw [vp_cell_q]
    exact vr_outer _ N H.size N
  rw [hout] at f2
  have hP1 : va_P G.2.2.1 vwCl (g_ws G (sh ++ ((1, 6, N) :: List.replicate N (1, 1, K)), I, J, (fun a b => if a = sh.length then (if b < N then some (sh.length + 1 + b) else none) else R a b))) F.heap := by
    refine g_P_app hH.2.2 hold (fun i hi b => if_neg (Nat.ne_of_lt hi)) (fun i hi => ?_)
    have hi' : i < N + 1 := by simpa using hi
    rw [z_ad (by omega)]
    match i, hi' with
    | 0, _ =>
      rw [g_cell, show ((sh ++ ((1, 6, N) :: List.replicate N (1, 1, K)), I, J, (fun a b => if a = sh.length then (if b < N then some (sh.length + 1 + b) else none) else R a b)) : mM).1[sh.length + 0]? = some (1, 6, N) by simp]
      show F.heap[G.1 + (sh.length + 0)]? = some (vp_cell (G.2.2.2.1 6) (N, .inr (.inr (.inr (.inr (fun j => Option.map (g_ad G) (if sh.length + 0 = sh.length then (if j < N then some (sh.length + 1 + j) else none) else R (sh.length + 0) j)))))))
      rw [Nat.add_zero, ← hsz, f2]
      congr 7
      funext j
      rw [if_pos rfl]
      by_cases hj : j < N
      · rw [if_pos hj, if_pos hj, Option.map_some, z_ad (by omega), hsz]
        congr 1
        omega
      · rw [if_neg hj, if_neg hj]
        rfl
    | i + 1, hi' =>
      rw [g_cell, show ((sh ++ ((1, 6, N) :: List.replicate N (1, 1, K)), I, J, (fun a b => if a = sh.length then (if b < N then some (sh.length + 1 + b) else none) else R a b)) : mM).1[sh.length + (i + 1)]? = some (1, 1, K) by
        show (sh ++ ((1, 6, N) :: List.replicate N (1, 1, K)))[sh.length + (i + 1)]? = some (1, 1, K)
        rw [List.getElem?_append_right (by omega), show sh.length + (i + 1) - sh.length = i + 1 by omega, List.getElem?_cons_succ, List.getElem?_replicate, if_pos (by omega)]]
      show F.heap[G.1 + (sh.length + (i + 1))]? = some (vp_cell (G.2.2.2.1 1) (K, .inr (.inl (fun j => J (sh.length + (i + 1)) j))))
      have n2 : (fun j => J (sh.length + (i + 1)) j) = fun _ => 0 := funext fun j => (hnew _ (show sh.length ≤ sh.length + (i + 1) by omega) j).2.1
      rw [n2, ← hrow i (by omega), hsz]
      congr 1
      omega
  have hlen9 : (sh ++ ((1, 6, N) :: List.replicate N (1, 1, K))).length = sh.length + 1 + N := by simp; omega
  obtain ⟨t, a1, b1⟩ := kk p l e s m args below meth c F.heap locs Z ls C ⟨by show (sh ++ _).length ≤ 1000; rw [hlen9]; omega, by show _ = G.1 + (sh ++ _).length; rw [hlen9, f1, hsz]; omega, hP1⟩ ⟨⟨Nat.le_trans hS.1.1 (by rw [f1]; omega), fun x g1 g2 => (hold x (Nat.lt_of_lt_of_le g1 hS.1.1)).trans (hS.1.2.1 x g1 g2), hS.1.2.2⟩, by have := hS.2; show s.heap.size + (cn.1 + 1 + N) ≤ G.1 + (sh ++ _).length; rw [hlen9]; simp at this; omega⟩ hl (by have := hroom.1; show cn.1 + 1 + N ≤ _; omega) (by have := hroom.2; show cn.2 + N + N * K ≤ _; omega) hR F rfl X'
  refine ⟨t, step t ?_, b1⟩
  rw [List.map_cons, show g_tv G (.ref sh.length) = .ref (g_ad G sh.length) from rfl, z_ad (by omega), ← hsz] at a1
  have e : T.heap.size = H.size := by rw [hT]
  rw [e]
  exact a1
theorem zV_aastore {q q' t n ci k : Nat} {r : vw_C} {i : Int32} (j : Nat) (hd : decode E.2.1 pc = .ok (.aastore, 1)) (hp : pc + 1 = pc') (hs : sh[q]? = some (1, t, n)) (hs' : sh[q']? = some (0, ci, k)) (hci : vwCl[ci]? = some r) (ht : g_ty t = .object r.1) (htt : 3 ≤ t ∧ t < 6) (hi : i = nI j) (hj : j < n) (hN : n ≤ 100000) (kk : zV G E cn pc' lv st (sh, I, J, up2 R q j (some q')) Q) : zV G E cn pc lv (.ref q' :: .int i :: .ref q :: st) (sh, I, J, R) Q := by
  subst hp
  intro p l e s m args below meth c H locs Z ls C hH hS hl h1 h2 hR
  obtain ⟨hin, hcl⟩ := z_in hi hj hN
  have hc : ∀ R : Nat → Nat → Option Nat, g_ct G (sh, I, J, R) t q = .inr (.inr (.inr (.inr (fun j => (R q j).map (g_ad G))))) := fun R => by
    rw [g_ct, if_neg (by omega), if_neg (by omega)]
  refine va_astq (D := G.2.2.1) (f := fun j => (R q j).map (g_ad G)) (v := g_ad G q') C.1 C.2.1 C.2.2.2.2.2.2.2.1 hH.2.2 (g_D hH.1) hS.1 q t q' ci (by rw [g_ws_a hs, hc]) (by rw [g_tys_at (by omega), ht]) (g_ws_o hs') hci hin hd (fun H1 locs1 hP hD hS1 => ?_)
  have e9 : (g_ws G (sh, I, J, R)).set q (g_ad G q, .inl (G.2.2.2.1 t, n, .inr (.inr (.inr (.inr (va_up (fun j => (R q j).map (g_ad G)) j (some (g_ad G q')))))))) = g_ws G (sh, I, J, up2 R q j (some q')) := by
    refine g_set rfl (g_lt (M := (sh, I, J, R)) hs) (fun a ha => g_cell_R (fun b => up2_ni ha)) ?_
    rw [g_cell, show ((sh, I, J, up2 R q j (some q')) : mM).1[q]? = some (1, t, n) from hs]
    show (g_ad G q, Sum.inl (G.2.2.2.1 t, n, g_ct G (sh, I, J, up2 R q j (some q')) t q)) = _
    rw [hc]
    congr 8
    funext b
    by_cases hb : b = j
    · subst hb
      simp [up2, va_up]
    · simp [up2, va_up, hb]
  rw [hcl, e9] at hP
  exact z_store kk C hH hS hl h1 h2 hR rfl hP hS1
end ZN
