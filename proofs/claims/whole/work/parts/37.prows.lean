section PRows
variable {M : MD} {d mc ms kc ks pc : Nat} {Q : Option Value → ZS → Prop} {lv : List (Option Value)} {st : List Value} {σ : ZS} {off : Int} {tgt : Nat}
theorem x_ifP_eq {P : Prop} (inst : Decidable P) (hd : decode M.2.1 pc = .ok (.ifCond .eq off, 3)) (ht : (pc : Int) + off = (tgt : Int)) (kt : ¬ P → X M d mc ms Q kc ks tgt lv st σ) (kf : P → X M d mc ms Q kc ks (pc + 3) lv st σ) : X M d mc ms Q kc ks pc lv (.int (bI (@decide P inst)) :: st) σ :=
  x_ifB_eq hd ht (fun h => kt (of_decide_eq_false h)) (fun h => kf (of_decide_eq_true h))
theorem x_ifP_ne {P : Prop} (inst : Decidable P) (hd : decode M.2.1 pc = .ok (.ifCond .ne off, 3)) (ht : (pc : Int) + off = (tgt : Int)) (kt : P → X M d mc ms Q kc ks tgt lv st σ) (kf : ¬ P → X M d mc ms Q kc ks (pc + 3) lv st σ) : X M d mc ms Q kc ks pc lv (.int (bI (@decide P inst)) :: st) σ :=
  x_ifB_ne hd ht (fun h => kt (of_decide_eq_true h)) (fun h => kf (of_decide_eq_false h))
end PRows
theorem rlt {σ0 σ : ZS} {a : Nat → Int32} {tw : Int64} {b : Nat → List Int32} (h : RM σ0 σ a tw b) {j m n : Nat} (hj : j < 17) (hm : rlen.getD j 0 = m) (hn : n < m) : n < (b j).length := by rw [h.rlen hj hm]; exact hn
theorem rgN {l : List Int32} {D : List Nat} {k : Nat} (h : l = D.map nI) : l.getD k 0 = nI (D.getD k 0) := by rw [h]; exact gm_getD
theorem rgD {l l' : List Int32} {k : Nat} (h : l = l') : l.getD k 0 = l'.getD k 0 := by rw [h]
theorem rset {l : List Int32} {D : List Nat} {k v : Nat} (h : l = D.map nI) : l.set k (nI v) = (D.set k v).map nI := by rw [h]; exact gm_set
theorem rset1 {l l' : List Int32} {k : Nat} {v : Int32} (h : l = l') : l.set k v = l'.set k v := by rw [h]
theorem tL {x : Int32} {p : Int} (h : x.toInt = p) : x.toInt64.toInt = p := by rw [Int32.toInt_toInt64]; exact h
theorem bI_vp (b : Bool) : vp_nar .boolean (bI b) = bI b := by cases b <;> decide
theorem bI_p (b : Bool) {P : Prop} (inst : Decidable P) (h : b = true ↔ P) : bI b = bI (@decide P inst) := by
  congr 1
  rw [Bool.eq_iff_iff, h, decide_eq_true_iff]
