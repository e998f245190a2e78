/-! rows: comparisons of ints as Ints; writes with a fresh store; the reference's world -/
section TRows
variable {M : MD} {d mc ms kc ks pc : Nat} {Q : Option Value → ZS → Prop} {lv : List (Option Value)} {st : List Value} {σ : ZS} {x y : Int32} {p q : Int} {off : Int} {tgt : Nat}
theorem x_icmpT_lt (hx : x.toInt = p) (hy : y.toInt = q) (hd : decode M.2.1 pc = .ok (.if_icmp .lt off, 3)) (ht : (pc : Int) + off = (tgt : Int)) (kt : p < q → X M d mc ms Q kc ks tgt lv st σ) (kf : q ≤ p → X M d mc ms Q kc ks (pc + 3) lv st σ) : X M d mc ms Q kc ks pc lv (.int y :: .int x :: st) σ :=
  x_icmp_lt hd ht (fun h => kt (by rw [Int32.lt_iff_toInt_lt, hx, hy] at h; exact h)) (fun h => kf (by rw [Int32.lt_iff_toInt_lt, hx, hy] at h; omega))
theorem x_icmpT_ge (hx : x.toInt = p) (hy : y.toInt = q) (hd : decode M.2.1 pc = .ok (.if_icmp .ge off, 3)) (ht : (pc : Int) + off = (tgt : Int)) (kt : q ≤ p → X M d mc ms Q kc ks tgt lv st σ) (kf : p < q → X M d mc ms Q kc ks (pc + 3) lv st σ) : X M d mc ms Q kc ks pc lv (.int y :: .int x :: st) σ :=
  x_icmp_ge hd ht (fun h => kt (by rw [Int32.le_iff_toInt_le, hx, hy] at h; exact h)) (fun h => kf (by rw [Int32.le_iff_toInt_le, hx, hy] at h; omega))
theorem x_icmpT_gt (hx : x.toInt = p) (hy : y.toInt = q) (hd : decode M.2.1 pc = .ok (.if_icmp .gt off, 3)) (ht : (pc : Int) + off = (tgt : Int)) (kt : q < p → X M d mc ms Q kc ks tgt lv st σ) (kf : p ≤ q → X M d mc ms Q kc ks (pc + 3) lv st σ) : X M d mc ms Q kc ks pc lv (.int y :: .int x :: st) σ :=
  x_icmp_gt hd ht (fun h => kt (by rw [Int32.lt_iff_toInt_lt, hx, hy] at h; exact h)) (fun h => kf (by rw [Int32.lt_iff_toInt_lt, hx, hy] at h; omega))
theorem x_icmpT_le (hx : x.toInt = p) (hy : y.toInt = q) (hd : decode M.2.1 pc = .ok (.if_icmp .le off, 3)) (ht : (pc : Int) + off = (tgt : Int)) (kt : p ≤ q → X M d mc ms Q kc ks tgt lv st σ) (kf : q < p → X M d mc ms Q kc ks (pc + 3) lv st σ) : X M d mc ms Q kc ks pc lv (.int y :: .int x :: st) σ :=
  x_icmp_le hd ht (fun h => kt (by rw [Int32.le_iff_toInt_le, hx, hy] at h; exact h)) (fun h => kf (by rw [Int32.le_iff_toInt_le, hx, hy] at h; omega))
theorem x_icmpT_eq (hx : x.toInt = p) (hy : y.toInt = q) (hd : decode M.2.1 pc = .ok (.if_icmp .eq off, 3)) (ht : (pc : Int) + off = (tgt : Int)) (kt : p = q → X M d mc ms Q kc ks tgt lv st σ) (kf : ¬ p = q → X M d mc ms Q kc ks (pc + 3) lv st σ) : X M d mc ms Q kc ks pc lv (.int y :: .int x :: st) σ :=
  x_icmp_eq hd ht (fun h => kt (by rw [← Int32.toInt_inj, hx, hy] at h; exact h)) (fun h => kf (by rw [← Int32.toInt_inj, hx, hy] at h; exact h))
theorem x_icmpT_ne (hx : x.toInt = p) (hy : y.toInt = q) (hd : decode M.2.1 pc = .ok (.if_icmp .ne off, 3)) (ht : (pc : Int) + off = (tgt : Int)) (kt : ¬ p = q → X M d mc ms Q kc ks tgt lv st σ) (kf : p = q → X M d mc ms Q kc ks (pc + 3) lv st σ) : X M d mc ms Q kc ks pc lv (.int y :: .int x :: st) σ :=
  x_icmp_ne hd ht (fun h => kt (by rw [← Int32.toInt_inj, hx, hy] at h; exact h)) (fun h => kf (by rw [← Int32.toInt_inj, hx, hy] at h; exact h))
theorem z_toInt0 : (0 : Int32).toInt = 0 := by decide
theorem x_ifT_lt (hx : x.toInt = p) (hd : decode M.2.1 pc = .ok (.ifCond .lt off, 3)) (ht : (pc : Int) + off = (tgt : Int)) (kt : p < 0 → X M d mc ms Q kc ks tgt lv st σ) (kf : 0 ≤ p → X M d mc ms Q kc ks (pc + 3) lv st σ) : X M d mc ms Q kc ks pc lv (.int x :: st) σ :=
  x_if_lt hd ht (fun h => kt (by rw [Int32.lt_iff_toInt_lt, hx, z_toInt0] at h; exact h)) (fun h => kf (by rw [Int32.lt_iff_toInt_lt, hx, z_toInt0] at h; omega))
theorem x_ifT_ge (hx : x.toInt = p) (hd : decode M.2.1 pc = .ok (.ifCond .ge off, 3)) (ht : (pc : Int) + off = (tgt : Int)) (kt : 0 ≤ p → X M d mc ms Q kc ks tgt lv st σ) (kf : p < 0 → X M d mc ms Q kc ks (pc + 3) lv st σ) : X M d mc ms Q kc ks pc lv (.int x :: st) σ :=
  x_if_ge hd ht (fun h => kt (by rw [Int32.le_iff_toInt_le, hx, z_toInt0] at h; exact h)) (fun h => kf (by rw [Int32.le_iff_toInt_le, hx, z_toInt0] at h; omega))
theorem x_ifT_gt (hx : x.toInt = p) (hd : decode M.2.1 pc = .ok (.ifCond .gt off, 3)) (ht : (pc : Int) + off = (tgt : Int)) (kt : 0 < p → X M d mc ms Q kc ks tgt lv st σ) (kf : p ≤ 0 → X M d mc ms Q kc ks (pc + 3) lv st σ) : X M d mc ms Q kc ks pc lv (.int x :: st) σ :=
  x_if_gt hd ht (fun h => kt (by rw [Int32.lt_iff_toInt_lt, hx, z_toInt0] at h; exact h)) (fun h => kf (by rw [Int32.lt_iff_toInt_lt, hx, z_toInt0] at h; omega))
theorem x_ifT_le (hx : x.toInt = p) (hd : decode M.2.1 pc = .ok (.ifCond .le off, 3)) (ht : (pc : Int) + off = (tgt : Int)) (kt : p ≤ 0 → X M d mc ms Q kc ks tgt lv st σ) (kf : 0 < p → X M d mc ms Q kc ks (pc + 3) lv st σ) : X M d mc ms Q kc ks pc lv (.int x :: st) σ :=
  x_if_le hd ht (fun h => kt (by rw [Int32.le_iff_toInt_le, hx, z_toInt0] at h; exact h)) (fun h => kf (by rw [Int32.le_iff_toInt_le, hx, z_toInt0] at h; omega))
theorem x_ifT_eq (hx : x.toInt = p) (hd : decode M.2.1 pc = .ok (.ifCond .eq off, 3)) (ht : (pc : Int) + off = (tgt : Int)) (kt : p = 0 → X M d mc ms Q kc ks tgt lv st σ) (kf : ¬ p = 0 → X M d mc ms Q kc ks (pc + 3) lv st σ) : X M d mc ms Q kc ks pc lv (.int x :: st) σ :=
  x_if_eq hd ht (fun h => kt (by rw [← Int32.toInt_inj, hx, z_toInt0] at h; exact h)) (fun h => kf (by rw [← Int32.toInt_inj, hx, z_toInt0] at h; exact h))
theorem x_ifT_ne (hx : x.toInt = p) (hd : decode M.2.1 pc = .ok (.ifCond .ne off, 3)) (ht : (pc : Int) + off = (tgt : Int)) (kt : ¬ p = 0 → X M d mc ms Q kc ks tgt lv st σ) (kf : p = 0 → X M d mc ms Q kc ks (pc + 3) lv st σ) : X M d mc ms Q kc ks pc lv (.int x :: st) σ :=
  x_if_ne hd ht (fun h => kt (by rw [← Int32.toInt_inj, hx, z_toInt0] at h; exact h)) (fun h => kf (by rw [← Int32.toInt_inj, hx, z_toInt0] at h; exact h))
end TRows
theorem tI_lo (x : Int32) : -2147483648 ≤ x.toInt := Int32.le_toInt x
theorem tI_hi (x : Int32) : x.toInt < 2147483648 := Int32.toInt_lt x
theorem ni_of {x : Int32} (h : 0 ≤ x.toInt) : x = nI x.toInt.toNat := by
  have h1 := tI_hi x
  rw [← Int32.toInt_inj, nI_toInt (by omega)]
  omega
theorem tI_bI (b : Bool) : (bI b).toInt = if b = true then 1 else 0 := by cases b <;> decide
/-- one place of a function changed -/
abbrev up {α : Type} (f : Nat → α) (k : Nat) (v : α) : Nat → α := fun j => if j = k then v else f j
/-- the reference's object: its plain fields by number, and the one long -/
def mf (a : Nat → Int32) (tw : Int64) : List Value :=
  [.int (a 0), .ref 1001, .ref 1002, .int (a 3), .int (a 4), .ref 1003, .int (a 6), .int (a 7), .int (a 8), .ref 1004, .ref 1005, .ref 1006, .ref 1007, .int (a 13), .int (a 14), .int (a 15), .int (a 16), .int (a 17), .int (a 18), .int (a 19), .int (a 20), .int (a 21), .int (a 22), .int (a 23), .int (a 24), .int (a 25), .long tw, .int (a 27), .int (a 28), .int (a 29), .ref 1008, .int (a 31), .ref 1009, .int (a 33), .int (a 34), .int (a 35), .int (a 36), .int (a 37), .int (a 38), .int (a 39), .ref 1010, .ref 1011, .ref 1012, .ref 1013, .int (a 44), .int (a 45), .int (a 46), .int (a 47), .ref 1014, .ref 1015, .ref 1016, .ref 1017]
def rlen : List Nat := [960, 6, 160, 7, 7, 7, 49, 7, 49, 49, 7, 7, 49, 4, 4, 4, 160]
def rty (j : Nat) : Nat := if j = 13 then 1 else 0
/-- the reference's world: its object, its rows; nothing else has changed since σ0 -/
def RM (σ0 σ : ZS) (a : Nat → Int32) (tw : Int64) (b : Nat → List Int32) : Prop :=
  Fr (fun i => 1000 ≤ i ∧ i ≤ 1017) σ0 σ ∧ zg σ 1000 = some (.inr (.inr (7, mf a tw))) ∧ (∀ j, j < 17 → zg σ (1001 + j) = some (.inl (rty j, b j))) ∧ (∀ j, j < 17 → (b j).length = rlen.getD j 0)
theorem rg {x y : Int32} (h : x = y) : some (Value.int x) = some (Value.int y) := by rw [h]
theorem up_eq {α : Type} (f : Nat → α) (k : Nat) (v : α) : up f k v k = v := if_pos rfl
theorem up_ne {α : Type} (f : Nat → α) {k j : Nat} (v : α) (h : j ≠ k) : up f k v j = f j := if_neg h
theorem RM.rlen {σ0 σ : ZS} {a : Nat → Int32} {tw : Int64} {b : Nat → List Int32} (h : RM σ0 σ a tw b) {j : Nat} (hj : j < 17) {m : Nat} (hm : rlen.getD j 0 = m) : (b j).length = m := (h.2.2.2 j hj).trans hm
theorem RM.base {σ0 σ1 σ : ZS} {a : Nat → Int32} {tw : Int64} {b : Nat → List Int32} (hF : Fr (fun i => 1000 ≤ i ∧ i ≤ 1017) σ0 σ1) (h : RM σ1 σ a tw b) : RM σ0 σ a tw b := ⟨hF.tr h.1, h.2⟩
theorem RM.self {σ0 σ : ZS} {a : Nat → Int32} {tw : Int64} {b : Nat → List Int32} (h : RM σ0 σ a tw b) : RM σ σ a tw b := ⟨Fr.rf, h.2⟩
section RRows
variable {M : MD} {d mc ms kc ks pc : Nat} {Q : Option Value → ZS → Prop} {lv : List (Option Value)} {st : List Value} {σ0 σ : ZS} {a : Nat → Int32} {tw : Int64} {b : Nat → List Int32}
theorem x_rget {k idx fin : Nat} {ty : FieldType} {v : Value} (hf : zfw M.1.cls idx 7 k ty fin) (hR : RM σ0 σ a tw b) (hv : (mf a tw)[k]? = some v) (hd : decode M.2.1 pc = .ok (.getfield idx, 3)) (kk : X M d mc ms Q kc ks (pc + 3) lv (v :: st) σ) : X M d mc ms Q kc ks pc lv (.ref 1000 :: st) σ :=
  x_get hf hR.2.1 hv hd kk
theorem RM.put {k : Nat} {v : Value} {a' : Nat → Int32} {tw' : Int64} (hR : RM σ0 σ a tw b) (hs : (mf a tw).set k v = mf a' tw') : RM σ0 (zs σ 1000 (.inr (.inr (7, (mf a tw).set k v)))) a' tw' b := by
  refine ⟨hR.1.zs ⟨by omega, by omega⟩, by rw [zs_eq hR.2.1, hs], fun j hj => ?_, hR.2.2.2⟩
  exact zs_ne (by omega) (hR.2.2.1 j hj)
theorem x_rput {k idx : Nat} {ty : FieldType} {v : Value} (a' : Nat → Int32) (tw' : Int64) (hf : zfw M.1.cls idx 7 k ty 0) (hR : RM σ0 σ a tw b) (hl : k < 52) (hs : (mf a tw).set k v = mf a' tw') (hn : ∀ c : ZX, narrow ty (zv c v) = zv c v ∧ fits ty (zv c v) = true) (hd : decode M.2.1 pc = .ok (.putfield idx, 3)) (kk : ∀ σ' : ZS, RM σ0 σ' a' tw' b → X M d mc ms Q kc ks (pc + 3) lv st σ') : X M d mc ms Q kc ks pc lv (v :: .ref 1000 :: st) σ :=
  x_put hf hR.2.1 hl hn hd (kk _ (hR.put hs))
theorem x_rald {j n r : Nat} {x : Int32} (hR : RM σ0 σ a tw b) (hr : r = 1001 + j) (hj : j < 17) (ht : rty j = 0) (hx : x = nI n) (hn : n < (b j).length) (hd : decode M.2.1 pc = .ok (.iaload, 1)) (k : X M d mc ms Q kc ks (pc + 1) lv (.int ((b j).getD n 0) :: st) σ) : X M d mc ms Q kc ks pc lv (.int x :: .ref r :: st) σ := by
  have h := hR.2.2.1 j hj
  rw [ht] at h
  subst hr
  exact x_iald h hx hn hd k
theorem x_rzld {j n r : Nat} {x : Int32} (hR : RM σ0 σ a tw b) (hr : r = 1001 + j) (hj : j < 17) (ht : rty j = 1) (hx : x = nI n) (hn : n < (b j).length) (hd : decode M.2.1 pc = .ok (.baload, 1)) (k : X M d mc ms Q kc ks (pc + 1) lv (.int ((b j).getD n 0) :: st) σ) : X M d mc ms Q kc ks pc lv (.int x :: .ref r :: st) σ := by
  have h := hR.2.2.1 j hj
  rw [ht] at h
  subst hr
  exact x_zald h hx hn hd k
theorem RM.row {j : Nat} {l : List Int32} (hR : RM σ0 σ a tw b) (hj : j < 17) (hl : l.length = (b j).length) : RM σ0 (zs σ (1001 + j) (.inl (rty j, l))) a tw (up b j l) := by
  refine ⟨hR.1.zs ⟨by omega, by omega⟩, zs_ne (by omega) hR.2.1, fun i hi => ?_, fun i hi => ?_⟩
  · by_cases h : i = j
    · subst h
      rw [up_eq]
      exact zs_eq (hR.2.2.1 i hi)
    · rw [up_ne _ _ h]
      exact zs_ne (by omega) (hR.2.2.1 i hi)
  · by_cases h : i = j
    · subst h
      rw [up_eq, hl]
      exact hR.2.2.2 i hi
    · rw [up_ne _ _ h]
      exact hR.2.2.2 i hi
theorem x_rast {j n r : Nat} {x v : Int32} (hR : RM σ0 σ a tw b) (hr : r = 1001 + j) (hj : j < 17) (ht : rty j = 0) (hx : x = nI n) (hn : n < (b j).length) (hd : decode M.2.1 pc = .ok (.iastore, 1)) (k : ∀ σ' : ZS, RM σ0 σ' a tw (up b j ((b j).set n v)) → X M d mc ms Q kc ks (pc + 1) lv st σ') : X M d mc ms Q kc ks pc lv (.int v :: .int x :: .ref r :: st) σ := by
  have h := hR.2.2.1 j hj
  have h2 := hR.row (l := (b j).set n v) hj (List.length_set ..)
  rw [ht] at h h2
  subst hr
  exact x_iast h hx hn hd (k _ h2)
theorem x_rzst {j n r : Nat} {x v : Int32} (hR : RM σ0 σ a tw b) (hr : r = 1001 + j) (hj : j < 17) (ht : rty j = 1) (hx : x = nI n) (hn : n < (b j).length) (hv : vp_nar .boolean v = v) (hd : decode M.2.1 pc = .ok (.bastore, 1)) (k : ∀ σ' : ZS, RM σ0 σ' a tw (up b j ((b j).set n v)) → X M d mc ms Q kc ks (pc + 1) lv st σ') : X M d mc ms Q kc ks pc lv (.int v :: .int x :: .ref r :: st) σ := by
  have h := hR.2.2.1 j hj
  have h2 := hR.row (l := (b j).set n v) hj (List.length_set ..)
  rw [ht] at h h2
  subst hr
  exact x_zast h hx hn hv hd (k _ h2)
theorem x_putK {i idx ci j : Nat} {fs : List Value} {ty : FieldType} {v : Value} (hf : zfw M.1.cls idx ci j ty 0) (hg : zg σ i = some (.inr (.inr (ci, fs)))) (hl : j < fs.length) (hn : ∀ c : ZX, narrow ty (zv c v) = zv c v ∧ fits ty (zv c v) = true) (hd : decode M.2.1 pc = .ok (.putfield idx, 3)) (k : ∀ σ' : ZS, zg σ' i = some (.inr (.inr (ci, fs.set j v))) → Fr (fun q => q = i) σ σ' → X M d mc ms Q kc ks (pc + 3) lv st σ') : X M d mc ms Q kc ks pc lv (v :: .ref i :: st) σ :=
  x_put hf hg hl hn hd (k _ (zs_eq hg) (Fr.rf.zs rfl))
theorem x_iastK {r n : Nat} {x v : Int32} {a : List Int32} (hg : zg σ r = some (.inl (0, a))) (hx : x = nI n) (hn : n < a.length) (hd : decode M.2.1 pc = .ok (.iastore, 1)) (k : ∀ σ' : ZS, zg σ' r = some (.inl (0, a.set n v)) → Fr (fun q => q = r) σ σ' → X M d mc ms Q kc ks (pc + 1) lv st σ') : X M d mc ms Q kc ks pc lv (.int v :: .int x :: .ref r :: st) σ :=
  x_iast hg hx hn hd (k _ (zs_eq hg) (Fr.rf.zs rfl))
end RRows
