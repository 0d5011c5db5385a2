/-- fewer locals, by their places -/
theorem zV_keep {G : mG} {E : mE} {cn : Nat × Nat} {pc : Nat} {lv lv' : List (Nat × Value)} {st : List Value} {M : mM} {Q : Option Value → mM → Prop} (ks : List Nat) (h : ks.filterMap (fun k => lv[k]?) = lv') (k : zV G E cn pc lv' st M Q) : zV G E cn pc lv st M Q := by
  refine zV_sub (fun q hq => ?_) k
  rw [← h] at hq
  obtain ⟨i, -, hi⟩ := List.mem_filterMap.mp hq
  exact List.mem_of_getElem? hi
