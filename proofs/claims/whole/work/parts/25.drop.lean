section Drop
variable {M : MD} {d mc ms kc ks pc : Nat} {Q : Option Value → ZS → Prop} {lv : List (Option Value)} {st : List Value} {σ : ZS}
/-- what a local holds may be forgotten -/
theorem x_drop (i : Nat) (k : X M d mc ms Q kc ks pc (lv.set i none) st σ) : X M d mc ms Q kc ks pc lv st σ := by
  intro c p l e s m args below meth cd H locs cells slots ls F R L hc hs V
  refine k c p l e s m args below meth cd H locs cells slots ls F R L hc hs ⟨V.1, V.2.1, fun q hq => V.2.2 q ?_⟩
  obtain ⟨j, h1, h2⟩ := (lvA_mem _ 0 _).mp hq
  refine (lvA_mem _ 0 _).mpr ⟨j, h1, ?_⟩
  rw [List.getElem?_map] at h2 ⊢
  by_cases hj : j = i
  · subst hj
    exfalso
    by_cases hl : j < lv.length
    · rw [List.getElem?_set_self hl] at h2; cases h2
    · rw [List.getElem?_eq_none (by simpa using hl)] at h2; cases h2
  · rw [List.getElem?_set_ne (fun z => hj z.symm)] at h2
    exact h2
end Drop
