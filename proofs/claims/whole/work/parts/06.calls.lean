/-! CONTRACTS AND CALLS OF THE SMALL MACHINE -/
def zC (G : mG) (y : MethodName) (E : mE) (av : List Value) (M : mM) (Q : Option Value → mM → Prop) : Prop :=
  ∀ l : Launch, Met l y (Cond.code y E.2.1 E.2.2.1 E.2.2.2.1 :: tG) E.2.2.2.2.1 (va_Pc (av.map (g_tv G)) (g_S G M)) (fun _ st oc t => (∃ (r : Option Value) (M' : mM), Q r M' ∧ oc = .returned (r.map (g_tv G)) ∧ g_S G M' t) ∧ va_F (g_A G) st t) E.2.2.2.2.1.cells E.2.2.2.2.1.slots (g_A G)
theorem zC_mono {G : mG} {y : MethodName} {E : mE} {av : List Value} {M : mM} {Q Q' : Option Value → mM → Prop} (h : ∀ r M, Q' r M → Q r M) (k : zC G y E av M Q') : zC G y E av M Q := by
  intro l p e ha hc hk s m args below hf happ hP hK
  obtain ⟨k1, o, h1, h2, h3, ⟨⟨r, M', hq, q2⟩, hF⟩, h5⟩ := k l p e ha hc hk s m args below hf happ hP hK
  exact ⟨k1, o, h1, h2, h3, ⟨⟨r, M', h r M' hq, q2⟩, hF⟩, h5⟩
theorem g_args (G : mG) : ∀ (av : List Value) (i : Nat), lv_args i (av.map (g_tv G)) = g_lv G (lv_args i av) := by
  intro av
  induction av with
  | nil => intro i; rfl
  | cons v av ih =>
    intro i
    show (i, g_tv G v) :: lv_args (if (g_tv G v).category = 2 then i + 2 else i + 1) (av.map (g_tv G)) = (i, g_tv G v) :: g_lv G (lv_args (if v.category = 2 then i + 2 else i + 1) av)
    rw [g_cat, ih]
theorem g_sl_len (G : mG) : ∀ (av : List Value), (lg_sl (av.map (g_tv G))).length = (lg_sl av).length := by
  intro av
  induction av with
  | nil => rfl
  | cons v av ih =>
    unfold lg_sl at ih ⊢
    simp only [List.map_cons, List.flatMap_cons, List.length_append, ih, g_cat]
    split <;> rfl
theorem z_ofW {l : Launch} {y : MethodName} {ws ws' : List Cond} {rm : Room} {Pc : Array Value → State → Prop} {Qc : Array Value → State → Outcome → State → Prop} {mc ms : Nat} {free : Addr → Prop} {cc : ByteArray} {maxL : Nat} {ret : Option FieldType}
    (hy : plainFor y = true) (hw : ws = Cond.code y cc maxL ret :: ws')
    (body : ∀ p e s m args below meth c s₁, BodyLoose p l y (headSpec ws rm) cc maxL ret e s m args below meth c s₁ → c.maxLocals = maxL → Pc args s →
      W p l e (headSpec ws rm).room s m args below meth c s.heap [] 0 0 (MQ below Qc args s mc ms free) (entryFrame m args maxL)) : Met l y ws rm Pc Qc mc ms free := by
  refine MetFree.of_bodySF (code := cc) (maxLocals := maxL) (ret := ret) hy ?_ ?_
  · intro args s m h hn
    obtain ⟨meth, c, h1, h2, h3, h4, h5, h6, -, -⟩ := Cond.code_spec hn (atoms_spec (ws := ws) h _ (by rw [hw]; exact List.mem_cons_self))
    exact ⟨meth, c, h1, h2, h3, h4, h5, h6⟩
  · intro p e s m args below meth c s₁ B hml hP _
    have hh0 : s₁.heap = s.heap := by rw [B.state]; rfl
    obtain ⟨t, a1, o, b1, b2, b3⟩ := body p e s m args below meth c s₁ B hml hP s₁ hh0 (Stand.of_body B)
    exact ⟨t, o, a1, b1, b2, ⟨b3.1, b3.2⟩⟩
theorem zC_of {G : mG} {y : MethodName} {E : mE} {av : List Value} {M : mM} {Q : Option Value → mM → Prop} (hy : plainFor y = true) (hown : y.cls = E.1) (hinit : E.2.2.2.2.2 = true → y.name = "<init>") (hlen : (lg_sl av).length ≤ E.2.2.1) (k : zV G E (0, 0) 0 (lv_args 0 av) [] M Q) : zC G y E av M Q := by
  intro l
  refine z_ofW (cc := E.2.1) (maxL := E.2.2.1) (ret := E.2.2.2.1) hy rfl ?_
  intro p e s m args below meth c s₁ B hml hv
  obtain ⟨rfl, hH, hK, hO⟩ := hv
  have hts : ∀ w ∈ tG, w.before (av.map (g_tv G)).toArray s = true := fun w hw => atoms_spec (ws := Cond.code y E.2.1 E.2.2.1 E.2.2.2.1 :: tG) B.pre w (List.mem_cons_of_mem _ hw)
  have hfc : s.vm.findClass E.1 = some m.cls := by rw [← hown]; exact findClass_of_methodNamed B.named
  have C : g_C G E p s m (av.map (g_tv G)).toArray meth c := ⟨B.exec, B.bytes, hml, hfc, B.returns, B.notSynchronized, hts, hK, hO, by rw [hH.2.1]; omega, fun h => (name_of_methodNamed B.named B.method).1.trans (hinit h)⟩
  have hl := lv_entry (av.map (g_tv G)) (n := E.2.2.1) (by rw [g_sl_len]; exact hlen)
  rw [lg_entry_eq]
  rw [g_args] at hl
  generalize (lg_sl (av.map (g_tv G)) ++ List.replicate (E.2.2.1 - (lg_sl (av.map (g_tv G))).length) Slot.unset).toArray = ls at hl ⊢
  refine k p l e s m (av.map (g_tv G)).toArray below meth c s.heap [] (MQ below (fun _ st oc t => (∃ (r : Option Value) (M' : mM), Q r M' ∧ oc = .returned (r.map (g_tv G)) ∧ g_S G M' t) ∧ va_F (g_A G) st t) (av.map (g_tv G)).toArray s E.2.2.2.2.1.cells E.2.2.2.2.1.slots (g_A G)) ls C hH ⟨va_S.rf, by rw [hH.2.1]; exact Nat.le_refl _⟩ hl (Nat.zero_le _) (Nat.zero_le _) ?_
  intro r M' H' locs' cn' pc' ls' hq hH' hS' g1 g2 hrt
  have hlocks := B.notSynchronized
  refine W.widen (k := E.2.2.2.2.1.cells) (n := E.2.2.2.2.1.slots) g1 g2 ?_
  have post : ∀ t : State, t.heap = H' → s.WarmedH t.vm → (∃ (r : Option Value) (M' : mM), Q r M' ∧ Outcome.returned (Option.map (g_tv G) r) = .returned (r.map (g_tv G)) ∧ g_S G M' t) ∧ va_F (g_A G) s t := fun t ht hW => ⟨⟨r, M', hq, rfl, by rw [ht]; exact hH', va_K.moved hW.alike hK, hO.move hS' ht hW⟩, hS'.F ht⟩
  have post' : ∀ t : State, t.heap = H' → s.WarmedH t.vm → (∃ (r' : Option Value) (M' : mM), Q r' M' ∧ Outcome.returned (Option.map (g_tv G) r) = .returned (r'.map (g_tv G)) ∧ g_S G M' t) ∧ va_F (g_A G) s t := fun t ht hW => ⟨⟨r, M', hq, rfl, by rw [ht]; exact hH', va_K.moved hW.alike hK, hO.move hS' ht hW⟩, hS'.F ht⟩
  match r, hrt, post' with
  | none, hrt, post' => exact W.vret C.1 C.2.1 (C.2.2.2.2.1.trans hrt.1) post' hS'.2.2 hrt.2
  | some (.int v), hrt, post' =>
    obtain ⟨ty, e1, e2, e3⟩ := hrt
    exact W.zret C.1 C.2.1 (C.2.2.2.2.1.trans e1) e2 post' hS'.2.2 e3
  | some (.long v), hrt, post' => exact W.lret C.1 C.2.1 (C.2.2.2.2.1.trans hrt.1) post' hS'.2.2 hrt.2
  | some (.ref q), hrt, post' =>
    obtain ⟨⟨n, e1⟩, e3⟩ := hrt
    exact W.aret C.1 C.2.1 (C.2.2.2.2.1.trans e1) (Or.inl ⟨n, rfl⟩) (Or.inr ⟨_, rfl⟩) post' hS'.2.2 e3
  | some (.float v), hrt, _ => exact hrt.elim
  | some (.double v), hrt, _ => exact hrt.elim
  | some .null, hrt, _ => exact hrt.elim
  | some (.retAddr v), hrt, _ => exact hrt.elim
/-! calls -/
def g_k0 (y : MethodName) (E' : mE) (n : Nat) : Prop := Cond.initialized y.cls ∈ tG ∧ Cond.code y E'.2.1 E'.2.2.1 E'.2.2.2.1 ∈ tG ∧ y.cls ≠ "java/lang/invoke/MethodHandle" ∧ y.cls ≠ "java/lang/invoke/VarHandle" ∧ (parseMethodDescriptor y.desc).map (fun d => d.parameters.length) = some n
def g_rm (E E' : mE) : Prop := E'.2.2.2.2.1.frames + 1 ≤ E.2.2.2.2.1.frames ∧ 8 + (E'.2.2.1 + 11) + E'.2.2.2.2.1.locals ≤ E.2.2.2.2.1.locals
theorem g_goodIn {y : MethodName} {E' : mE} {n : Nat} (h : g_k0 y E' n) : GoodIn tG (Cond.code y E'.2.1 E'.2.2.1 E'.2.2.2.1 :: tG) := by
  intro w hw
  rcases List.mem_cons.mp hw with rfl | hw
  · exact ⟨h.2.1, tG_good _ h.2.1⟩
  · exact ⟨hw, tG_good _ hw⟩
section ZL
variable {G : mG} {E E' : mE} {cn : Nat × Nat} {pc pc' : Nat} {lv lv' : List (Nat × Value)} {st st0 : List Value} {Q Q' : Option Value → mM → Prop} {M : mM} {y : MethodName} {av : List Value} {n idx : Nat}
theorem z_blind {av : List Value} : FrameBlind (va_Pc (av.map (g_tv G)) (g_S G M)) := by
  intro a U g mk h
  obtain ⟨h0, h1, h2, h3⟩ := h
  exact ⟨h0, h1, va_K.moved (u := U) (U := U.calling g mk a) (Vm.Alike.refl U.vm) h2, h3.move (H := U.heap) (locs := []) va_S.rf rfl (State.WarmedH.refl U)⟩
theorem z_pre {p : Program} {s : State} {m : MethodId} {args : Array Value} {meth : Method} {c : Code} {H : Heap} {locs : List Loc} {av : List Value} (C : g_C G E p s m args meth c) (hH : g_H G M H) (hS : g_T G M s H locs cn) : ∀ U : State, U.heap = H → s.WarmedH U.vm → va_Pc (av.map (g_tv G)) (g_S G M) (av.map (g_tv G)).toArray U :=
  fun U hU hW => ⟨rfl, by rw [hU]; exact hH, va_K.moved hW.alike C.2.2.2.2.2.2.2.1, C.2.2.2.2.2.2.2.2.1.move hS.1 hU hW⟩
theorem z_call {p : Program} {l : Launch} {e : Env} {s : State} {m : MethodId} {args : Array Value} {below : List Frame} {meth : Method} {c : Code} {H : Heap} {locs : List Loc} {Z : State → Prop} {ls : Array Slot} {a : Array Value}
    (C : g_C G E p s m args meth c) (hH : g_H G M H) (hS : g_T G M s H locs cn) (hl : lv_has ls E.2.2.1 (g_lv G lv)) (hR : g_R G E p l e s m args below meth c Z Q)
    (hc : cn.1 + E'.2.2.2.2.1.cells ≤ E.2.2.2.2.1.cells ∧ cn.2 + E'.2.2.2.2.1.slots ≤ E.2.2.2.2.1.slots) (hm : E'.2.2.2.2.1.cells = 0 ∨ ∀ r M', Q' r M' → M.1.length + E'.2.2.2.2.1.cells ≤ M'.1.length)
    (run : va_Run p l e E.2.2.2.2.1 s m args below meth c H locs cn.1 cn.2 E'.2.2.2.2.1.cells E'.2.2.2.2.1.slots (F0 m pc ls (st0.map (g_tv G))) (st.map (g_tv G)) ((fun (_ : Array Value) st oc t => (∃ (r : Option Value) (M' : mM), Q' r M' ∧ oc = .returned (r.map (g_tv G)) ∧ g_S G M' t) ∧ va_F (g_A G) st t) a) (g_A G))
    (kk : ∀ r M', Q' r M' → zV G E (cn.1 + E'.2.2.2.2.1.cells, cn.2 + E'.2.2.2.2.1.slots) (pc + 3) lv (r.toList ++ st) M' Q) : W p l e E.2.2.2.2.1 s m args below meth c H locs cn.1 cn.2 Z (F0 m pc ls (st0.map (g_tv G))) := by
  intro T hT X
  obtain ⟨v, st₀, t, T', L, h0, X', hL, e1, e2, ⟨⟨r, M', hq, hv, gS⟩, hz, hk⟩, stp⟩ := run T hT X
  cases hv
  rw [h0] at hz hk
  have hS' : va_S (g_A G) s.heap T'.heap (locs ++ L) := ⟨Nat.le_trans hS.1.1 (by rw [e1]; exact hz), fun q h1 h2 => by rw [e1, hk q (Nat.lt_of_lt_of_le h1 hS.1.1) h2]; exact hS.1.2.1 q h1 h2, fun q hq => by
    rcases List.mem_append.mp hq with h | h
    · exact hS.1.2.2 q h
    · exact hL q h⟩
  have hlen : M.1.length + E'.2.2.2.2.1.cells ≤ M'.1.length := by
    rcases hm with h | h
    · have g1 := gS.1.2.1
      have g2 := hH.2.1
      omega
    · exact h r M' hq
  obtain ⟨t2, a1, b1⟩ := kk r M' hq p l e s m args below meth c T'.heap (locs ++ L) Z ls C (by rw [e1]; exact gS.1) ⟨hS', by have := hS.2; show s.heap.size + (cn.1 + E'.2.2.2.2.1.cells) ≤ _; omega⟩ hl hc.1 hc.2 hR T' rfl X'
  refine ⟨t2, stp t2 ?_, b1⟩
  have e9 : (Option.map (g_tv G) r).toList ++ List.map (g_tv G) st = List.map (g_tv G) (r.toList ++ st) := by cases r <;> simp
  rw [e9]
  exact a1
theorem z_rest {m : MethodId} {pc : Nat} {ls : Array Slot} {x : List Value} (h : (st.map fun v => v.category).sum ≤ 8) : 2 * (F0 m pc ls x).monitorRoom + ((st.map (g_tv G)).map fun v => v.category).sum ≤ 8 := by
  refine lv_room ?_
  rw [List.map_map]
  have e : ((fun v : Value => v.category) ∘ g_tv G) = fun v => v.category := by
    funext v
    exact g_cat G v
  rw [e]
  exact h
def g_kS (own : String) (idx : Nat) (y : MethodName) (E' : mE) (n : Nat) : Prop := Cond.methodLink own idx y ∈ tG ∧ Cond.static y ∈ tG ∧ g_k0 y E' n
theorem zV_callS (hd : decode E.2.1 pc = .ok (.invokestatic idx, 3)) (hp : pc + 3 = pc') (hk : g_kS E.1 idx y E' n) (hn : av.length = n) (hrm : g_rm E E') (hc : cn.1 + E'.2.2.2.2.1.cells ≤ E.2.2.2.2.1.cells ∧ cn.2 + E'.2.2.2.2.1.slots ≤ E.2.2.2.2.1.slots) (hm : E'.2.2.2.2.1.cells = 0 ∨ ∀ r M', Q' r M' → M.1.length + E'.2.2.2.2.1.cells ≤ M'.1.length) (hst : st0 = av.reverse ++ st) (hr : (st.map fun v => v.category).sum ≤ 8) (hC : zC G y E' av M Q')
    (kk : ∀ r M', Q' r M' → zV G E (cn.1 + E'.2.2.2.2.1.cells, cn.2 + E'.2.2.2.2.1.slots) pc' lv (r.toList ++ st) M' Q) : zV G E cn pc lv st0 M Q := by
  subst hp hst
  intro p l e s m args below meth c H locs Z ls C hH hS hl h1 h2 hR
  refine z_call (a := (av.map (g_tv G)).toArray) C hH hS hl hR hc hm ?_ kk
  exact va_runS (As := av.map (g_tv G)) (rest := st.map (g_tv G)) ⟨C.1, C.2.1, C.2.2.1, C.2.2.2.1, C.2.2.2.2.2.2.1⟩ (hC l) ⟨callB_of n C.2.2.2.2.2.2.1 (g_goodIn hk.2.2) rfl rfl rfl (C.2.2.2.2.2.2.1 _ hk.2.2.1) (C.2.2.2.2.2.2.1 _ hk.1) hk.2.2.2.2 hrm, C.2.2.2.2.2.2.1 _ hk.2.1⟩ ⟨z_blind, z_pre C hH hS⟩ rfl (by rw [List.length_map]; exact hn) hl.1 (by rw [List.map_append, List.map_reverse]) (z_rest hr) hd hc
def g_kSN (own : String) (idx : Nat) (y : MethodName) (E' : mE) (n : Nat) : Prop := Cond.methodLinkNest own idx y "TurningCoins" ∈ g_nest ∧ Cond.static y ∈ tG ∧ g_k0 y E' n
theorem zV_callSN (hd : decode E.2.1 pc = .ok (.invokestatic idx, 3)) (hp : pc + 3 = pc') (hk : g_kSN E.1 idx y E' n) (hn : av.length = n) (hrm : g_rm E E') (hc : cn.1 + E'.2.2.2.2.1.cells ≤ E.2.2.2.2.1.cells ∧ cn.2 + E'.2.2.2.2.1.slots ≤ E.2.2.2.2.1.slots) (hm : E'.2.2.2.2.1.cells = 0 ∨ ∀ r M', Q' r M' → M.1.length + E'.2.2.2.2.1.cells ≤ M'.1.length) (hst : st0 = av.reverse ++ st) (hr : (st.map fun v => v.category).sum ≤ 8) (hC : zC G y E' av M Q')
    (kk : ∀ r M', Q' r M' → zV G E (cn.1 + E'.2.2.2.2.1.cells, cn.2 + E'.2.2.2.2.1.slots) pc' lv (r.toList ++ st) M' Q) : zV G E cn pc lv st0 M Q := by
  subst hp hst
  intro p l e s m args below meth c H locs Z ls C hH hS hl h1 h2 hR
  refine z_call (a := (av.map (g_tv G)).toArray) C hH hS hl hR hc hm ?_ kk
  exact va_runSN (As := av.map (g_tv G)) (rest := st.map (g_tv G)) ⟨C.1, C.2.1, C.2.2.1, C.2.2.2.1, C.2.2.2.2.2.2.1⟩ (hC l) ⟨va_cnB n C.2.2.2.2.2.2.1 (g_goodIn hk.2.2) rfl rfl rfl (C.2.2.2.2.2.2.2.2.1.2.2.2.2.2.2.1 _ hk.1) (C.2.2.2.2.2.2.1 _ hk.2.2.1) hk.2.2.2.2 hrm, C.2.2.2.2.2.2.1 _ hk.2.1, trivial⟩ ⟨z_blind, z_pre C hH hS⟩ rfl (by rw [List.length_map]; exact hn) hl.1 (by rw [List.map_append, List.map_reverse]) (z_rest hr) hd hc
def g_kV (own : String) (idx : Nat) (y : MethodName) (E' : mE) (n : Nat) : Prop := Cond.methodLink own idx y ∈ tG ∧ Cond.instanceMethod y ∈ tG ∧ Cond.selects y.cls y y ∈ tG ∧ g_k0 y E' n
theorem z_runV {b : Nat} {p : Program} {l : Launch} {e : Env} {s : State} {m : MethodId} {args : Array Value} {below : List Frame} {meth : Method} {c : Code} {H : Heap} {locs : List Loc} {ls : Array Slot} (C : g_C G E p s m args meth c) (hH : g_H G M H) (hS : g_T G M s H locs cn) (hl : lv_has ls E.2.2.1 (g_lv G lv)) (hd : decode E.2.1 pc = .ok (.invokevirtual idx, 3)) (hk : g_kV E.1 idx y E' n) (hn : av.length = n) (hrm : g_rm E E') (hc : cn.1 + E'.2.2.2.2.1.cells ≤ E.2.2.2.2.1.cells ∧ cn.2 + E'.2.2.2.2.1.slots ≤ E.2.2.2.2.1.slots) (hr : (st.map fun v => v.category).sum ≤ 8) (hC : zC G y E' (.ref b :: av) M Q')
    (hrc : ∃ cell : Cell, H[g_ad G b]? = some cell ∧ cell.vm.isStatics = false ∧ s.vm.findClass y.cls = some cell.cls) :
    va_Run p l e E.2.2.2.2.1 s m args below meth c H locs cn.1 cn.2 E'.2.2.2.2.1.cells E'.2.2.2.2.1.slots (F0 m pc ls ((av.reverse ++ .ref b :: st).map (g_tv G))) (st.map (g_tv G)) ((fun (_ : Array Value) st oc t => (∃ (r : Option Value) (M' : mM), Q' r M' ∧ oc = .returned (r.map (g_tv G)) ∧ g_S G M' t) ∧ va_F (g_A G) st t) ((Value.ref b :: av).map (g_tv G)).toArray) (g_A G) :=
  va_runV (C := y.cls) (b := g_ad G b) (As := av.map (g_tv G)) (rest := st.map (g_tv G)) ⟨C.1, C.2.1, C.2.2.1, C.2.2.2.1, C.2.2.2.2.2.2.1⟩ (hC l) ⟨callB_of n C.2.2.2.2.2.2.1 (g_goodIn hk.2.2.2) rfl rfl rfl (C.2.2.2.2.2.2.1 _ hk.2.2.2.1) (C.2.2.2.2.2.2.1 _ hk.1) hk.2.2.2.2.2 hrm, C.2.2.2.2.2.2.1 _ hk.2.1, C.2.2.2.2.2.2.1 _ hk.2.2.1⟩ ⟨z_blind, hrc, z_pre (av := .ref b :: av) C hH hS⟩ rfl (by rw [List.length_map]; exact hn) hl.1 (by show List.map (g_tv G) (av.reverse ++ .ref b :: st) = _; rw [List.map_append, List.map_reverse]; rfl) (z_rest hr) hd hc
theorem zV_callV {b ci k : Nat} {r : vw_C} (hd : decode E.2.1 pc = .ok (.invokevirtual idx, 3)) (hp : pc + 3 = pc') (hk : g_kV E.1 idx y E' n) (hn : av.length = n) (hrm : g_rm E E') (hc : cn.1 + E'.2.2.2.2.1.cells ≤ E.2.2.2.2.1.cells ∧ cn.2 + E'.2.2.2.2.1.slots ≤ E.2.2.2.2.1.slots) (hm : E'.2.2.2.2.1.cells = 0 ∨ ∀ r M', Q' r M' → M.1.length + E'.2.2.2.2.1.cells ≤ M'.1.length) (hst : st0 = av.reverse ++ .ref b :: st) (hr : (st.map fun v => v.category).sum ≤ 8) (hsh : M.1[b]? = some (0, ci, k)) (hci : vwCl[ci]? = some r) (hcy : r.1 = y.cls) (hC : zC G y E' (.ref b :: av) M Q')
    (kk : ∀ r M', Q' r M' → zV G E (cn.1 + E'.2.2.2.2.1.cells, cn.2 + E'.2.2.2.2.1.slots) pc' lv (r.toList ++ st) M' Q) : zV G E cn pc lv st0 M Q := by
  subst hp hst
  intro p l e s m args below meth c H locs Z ls C hH hS hl h1 h2 hR
  refine z_call (a := ((Value.ref b :: av).map (g_tv G)).toArray) C hH hS hl hR hc hm (z_runV C hH hS hl hd hk hn hrm hc hr hC ?_) kk
  rw [← hcy]
  exact va_recv C.2.2.2.2.2.2.2.1 hH.2.2 hci (g_ws_o hsh)
theorem zV_callVs {t : Nat} (ht : t < 11) (hd : decode E.2.1 pc = .ok (.invokevirtual idx, 3)) (hp : pc + 3 = pc') (hk : g_kV E.1 idx y E' n) (hn : av.length = n) (hrm : g_rm E E') (hc : cn.1 + E'.2.2.2.2.1.cells ≤ E.2.2.2.2.1.cells ∧ cn.2 + E'.2.2.2.2.1.slots ≤ E.2.2.2.2.1.slots) (hm : E'.2.2.2.2.1.cells = 0 ∨ ∀ r M', Q' r M' → M.1.length + E'.2.2.2.2.1.cells ≤ M'.1.length) (hst : st0 = av.reverse ++ .ref (1000 + t) :: st) (hr : (st.map fun v => v.category).sum ≤ 8) (hcy : y.cls = "java/lang/String") (hC : zC G y E' (.ref (1000 + t) :: av) M Q')
    (kk : ∀ r M', Q' r M' → zV G E (cn.1 + E'.2.2.2.2.1.cells, cn.2 + E'.2.2.2.2.1.slots) pc' lv (r.toList ++ st) M' Q) : zV G E cn pc lv st0 M Q := by
  subst hp hst
  intro p l e s m args below meth c H locs Z ls C hH hS hl h1 h2 hR
  refine z_call (a := ((Value.ref (1000 + t) :: av).map (g_tv G)).toArray) C hH hS hl hR hc hm (z_runV C hH hS hl hd hk hn hrm hc hr hC ?_) kk
  rw [hcy, g_old]
  exact vk_recv C.2.2.2.2.2.2.2.2.1.1 ht hS.1
def g_kI (own : String) (idx : Nat) (y : MethodName) (E' : mE) (n : Nat) : Prop := Cond.methodLink own idx y ∈ tG ∧ Cond.instanceMethod y ∈ tG ∧ y.name = "<init>" ∧ E'.2.2.2.1 = none ∧ g_k0 y E' n
theorem zV_callI {b : Nat} (hd : decode E.2.1 pc = .ok (.invokespecial idx, 3)) (hp : pc + 3 = pc') (hk : g_kI E.1 idx y E' n) (hn : av.length = n) (hrm : g_rm E E') (hc : cn.1 + E'.2.2.2.2.1.cells ≤ E.2.2.2.2.1.cells ∧ cn.2 + E'.2.2.2.2.1.slots ≤ E.2.2.2.2.1.slots) (hm : E'.2.2.2.2.1.cells = 0 ∨ ∀ r M', Q' r M' → M.1.length + E'.2.2.2.2.1.cells ≤ M'.1.length) (hst : st0 = av.reverse ++ .ref b :: st) (hr : (st.map fun v => v.category).sum ≤ 8) (hC : zC G y E' (.ref b :: av) M Q')
    (kk : ∀ r M', Q' r M' → zV G E (cn.1 + E'.2.2.2.2.1.cells, cn.2 + E'.2.2.2.2.1.slots) pc' lv (r.toList ++ st) M' Q) : zV G E cn pc lv st0 M Q := by
  subst hp hst
  intro p l e s m args below meth c H locs Z ls C hH hS hl h1 h2 hR
  refine z_call (a := ((Value.ref b :: av).map (g_tv G)).toArray) C hH hS hl hR hc hm ?_ kk
  obtain ⟨k1, k2, k3, k4, k5⟩ := hk
  obtain ⟨o, cc, nL, ret, Rm, ii⟩ := E'
  cases (show ret = none from k4)
  exact va_runI (b := g_ad G b) (As := av.map (g_tv G)) (rest := st.map (g_tv G)) ⟨C.1, C.2.1, C.2.2.1, C.2.2.2.1, C.2.2.2.2.2.2.1⟩ (hC l) ⟨callB_of n C.2.2.2.2.2.2.1 (g_goodIn k5) rfl rfl rfl (C.2.2.2.2.2.2.1 _ k5.1) (C.2.2.2.2.2.2.1 _ k1) k5.2.2 hrm, k3, C.2.2.2.2.2.2.1 _ k2⟩ ⟨z_blind, z_pre (av := .ref b :: av) C hH hS⟩ rfl (by rw [List.length_map]; exact hn) hl.1 (by show List.map (g_tv G) (av.reverse ++ .ref b :: st) = _; rw [List.map_append, List.map_reverse]; rfl) (z_rest hr) hd hc
def g_kIN (own : String) (idx : Nat) (y : MethodName) (E' : mE) (n : Nat) : Prop := Cond.methodLinkNest own idx y "TurningCoins" ∈ g_nest ∧ Cond.instanceMethod y ∈ tG ∧ y.name = "<init>" ∧ E'.2.2.2.1 = none ∧ g_k0 y E' n
theorem zV_callIN {b : Nat} (hd : decode E.2.1 pc = .ok (.invokespecial idx, 3)) (hp : pc + 3 = pc') (hk : g_kIN E.1 idx y E' n) (hn : av.length = n) (hrm : g_rm E E') (hc : cn.1 + E'.2.2.2.2.1.cells ≤ E.2.2.2.2.1.cells ∧ cn.2 + E'.2.2.2.2.1.slots ≤ E.2.2.2.2.1.slots) (hm : E'.2.2.2.2.1.cells = 0 ∨ ∀ r M', Q' r M' → M.1.length + E'.2.2.2.2.1.cells ≤ M'.1.length) (hst : st0 = av.reverse ++ .ref b :: st) (hr : (st.map fun v => v.category).sum ≤ 8) (hC : zC G y E' (.ref b :: av) M Q')
    (kk : ∀ r M', Q' r M' → zV G E (cn.1 + E'.2.2.2.2.1.cells, cn.2 + E'.2.2.2.2.1.slots) pc' lv (r.toList ++ st) M' Q) : zV G E cn pc lv st0 M Q := by
  subst hp hst
  intro p l e s m args below meth c H locs Z ls C hH hS hl h1 h2 hR
  refine z_call (a := ((Value.ref b :: av).map (g_tv G)).toArray) C hH hS hl hR hc hm ?_ kk
  obtain ⟨k1, k2, k3, k4, k5⟩ := hk
  obtain ⟨o, cc, nL, ret, Rm, ii⟩ := E'
  cases (show ret = none from k4)
  exact va_runIN (b := g_ad G b) (As := av.map (g_tv G)) (rest := st.map (g_tv G)) ⟨C.1, C.2.1, C.2.2.1, C.2.2.2.1, C.2.2.2.2.2.2.1⟩ (hC l) ⟨va_cnB n C.2.2.2.2.2.2.1 (g_goodIn k5) rfl rfl rfl (C.2.2.2.2.2.2.2.2.1.2.2.2.2.2.2.1 _ k1) (C.2.2.2.2.2.2.1 _ k5.1) k5.2.2 hrm, k3, C.2.2.2.2.2.2.1 _ k2⟩ ⟨z_blind, z_pre (av := .ref b :: av) C hH hS⟩ rfl (by rw [List.length_map]; exact hn) hl.1 (by show List.map (g_tv G) (av.reverse ++ .ref b :: st) = _; rw [List.map_append, List.map_reverse]; rfl) (z_rest hr) hd hc
end ZL
