/-! a String constant into a row of Strings -/
theorem z_astS {p : Program} {l : Launch} {e : Env} {R : Room} {s : State} {m : MethodId} {args : Array Value} {below : List Frame} {meth : Method} {c : Code} {H : Heap} {locs : List Loc} {cells slots : Nat} {Q : State → Prop} {cc : ByteArray} {pc : Nat} {ls : Array Slot} {rest : List Value} {D : va_G} {cl : List vw_C} {A : Nat → Prop} {a : Nat} {tys : List (ClassId × FieldType)} {ws : va_W} {H0 : Heap} (hexec : p.tables.exec = Jvm.exec) (hb : c.code = cc) (hK : va_K D cl tys s) (hP : va_P D cl ws H) (hD : va_D A ws) (hS : va_S A H0 H locs) (q0 t0 : Nat) {cA : ClassId} {n v : Nat} {f : Nat → Option Nat} (ha : ws[q0]? = some (a, .inl (cA, n, .inr (.inr (.inr (.inr f)))))) (ht : tys[t0]? = some (cA, .object "java/lang/String")) (hv : ∃ cell : Cell, H[v]? = some cell ∧ cell.vm.isStatics = false ∧ s.vm.findClass "java/lang/String" = some cell.cls) (hini : (Cond.initialized "java/lang/String").before args s = true) {i : Int32} (hin : vp_in i n) (hdg : decode cc pc = .ok (.aastore, 1))
    (kk : ∀ (H1 : Heap) (locs1 : List Loc), va_P D cl (ws.set q0 (a, .inl (cA, n, .inr (.inr (.inr (.inr (va_up f i.toNatClampNeg (some v)))))))) H1 → va_D A (ws.set q0 (a, .inl (cA, n, .inr (.inr (.inr (.inr (va_up f i.toNatClampNeg (some v)))))))) → va_S A H0 H1 locs1 → W p l e R s m args below meth c H1 locs1 cells slots Q (F0 m (pc + 1) ls rest)) : W p l e R s m args below meth c H locs cells slots Q (F0 m pc ls (.ref v :: .int i :: .ref a :: rest)) := by
  have hlt : i.toNatClampNeg < n := Nat.not_le.mp fun q => hin (Or.inr q)
  have h0 : ¬ i < 0 := fun q => hin (Or.inl q)
  obtain ⟨cellV, g1, g2, g3⟩ := hv
  obtain ⟨kA, comp, k1, k2, k3, -⟩ := (hK.2 t0 _ ht).2
  have hcomp : comp = cellV.cls := Option.some.inj (k3.symm.trans g3)
  subst hcomp
  have hkC : ∃ kC, s.vm.classes[cellV.cls]? = some kC := by
    cases hq : s.vm.classes[cellV.cls]? with
    | some k => exact ⟨k, rfl⟩
    | none =>
      simp only [Cond.before, Cond.holds, Cond.value] at hini
      simp [g3, hq] at hini
  obtain ⟨kC, hkC⟩ := hkC
  refine W.aast hexec hb (hP q0 _ ha) (fun q h => by cases h) (fun h => by cases h) k1 k2 rfl hkC ⟨h0, by show _ < (arrV _ _ _).slots.size; rw [arrV_size]; exact hlt⟩ g1 (fun q h => by rw [h] at g2; cases g2) hkC (va_asg _ _) rfl rfl hdg fun H1 e z oq => ?_
  refine kk H1 _ (hP.set hD ha ?_ oq) (hD.set ha) (hS.put z oq (hD.2 q0 _ ha))
  show H1[a]? = some (vp_cell _ _)
  rw [e]
  rw [vp_cell_q, vp_cell_q, arrV_store]
  congr 2
  funext j
  by_cases hj : j = i.toNatClampNeg
  · subst hj
    simp [updV, va_up, va_rf]
  · simp [updV, va_up, hj]
theorem zV_aastoreS {G : mG} {E : mE} {cn : Nat × Nat} {pc pc' : Nat} {lv : List (Nat × Value)} {st : List Value} {Q : Option Value → mM → Prop} {sh : List (Nat × Nat × Nat)} {I : Nat → Nat → Int32} {J : Nat → Nat → Int64} {R : Nat → Nat → Option Nat} {q w n : Nat} {i : Int32} (j : Nat) (hw : w < 11) (hd : decode E.2.1 pc = .ok (.aastore, 1)) (hp : pc + 1 = pc') (hs : sh[q]? = some (1, 5, n)) (hi : i = nI j) (hj : j < n) (hN : n ≤ 100000) (kk : zV G E cn pc' lv st (sh, I, J, up2 R q j (some (1000 + w))) Q) : zV G E cn pc lv (.ref (1000 + w) :: .int i :: .ref q :: st) (sh, I, J, R) Q := by
  subst hp
  intro p l e s m args below meth c H locs Z ls C hH hS hl h1 h2 hR
  obtain ⟨hin, hcl⟩ := z_in hi hj hN
  have hc : ∀ R : Nat → Nat → Option Nat, g_ct G (sh, I, J, R) 5 q = .inr (.inr (.inr (.inr (fun j => (R q j).map (g_ad G))))) := fun R => by
    rw [g_ct, if_neg (by omega), if_neg (by omega)]
  have e8 : g_ad G (1000 + w) = G.2.1 w := by rw [g_ad, if_neg (by omega), Nat.add_sub_cancel_left]
  have hrc := vk_recv C.2.2.2.2.2.2.2.2.1.1 hw hS.1
  refine z_astS (D := G.2.2.1) (f := fun j => (R q j).map (g_ad G)) (v := g_ad G (1000 + w)) C.1 C.2.1 C.2.2.2.2.2.2.2.1 hH.2.2 (g_D hH.1) hS.1 q 5 (by rw [g_ws_a hs, hc]) (by rw [g_tys_at (by omega)]; rfl) (by rw [e8]; exact hrc) (C.2.2.2.2.2.2.1 _ tw14) hin hd (fun H1 locs1 hP hD hS1 => ?_)
  have e9 : (g_ws G (sh, I, J, R)).set q (g_ad G q, .inl (G.2.2.2.1 5, n, .inr (.inr (.inr (.inr (va_up (fun j => (R q j).map (g_ad G)) j (some (g_ad G (1000 + w))))))))) = g_ws G (sh, I, J, up2 R q j (some (1000 + w))) := by
    refine g_set rfl (g_lt (M := (sh, I, J, R)) hs) (fun a ha => g_cell_R (fun b => up2_ni ha)) ?_
    rw [g_cell, show ((sh, I, J, up2 R q j (some (1000 + w))) : mM).1[q]? = some (1, 5, n) from hs]
    show (g_ad G q, Sum.inl (G.2.2.2.1 5, n, g_ct G (sh, I, J, up2 R q j (some (1000 + w))) 5 q)) = _
    rw [hc]
    congr 8
    funext b
    by_cases hb : b = j
    · subst hb
      simp [up2, va_up]
    · simp [up2, va_up, hb]
  rw [hcl, e9] at hP
  exact z_store kk C hH hS hl h1 h2 hR rfl hP hS1
