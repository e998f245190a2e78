section Rows
variable {M : MD} {d mc ms kc ks pc : Nat} {Q : Option Value → ZS → Prop} {lv : List (Option Value)} {st : List Value} {σ : ZS}
theorem x_iconst {n : Int} {v : Int32} (hd : decode M.2.1 pc = .ok (.iconst n, 1)) (hv : Int32.ofInt n = v) (k : X M d mc ms Q kc ks (pc + 1) lv (.int v :: st) σ) : X M d mc ms Q kc ks pc lv st σ := by
  intro c p l e s m args below meth cd H locs cells slots ls F R L hc hs V
  exact lv_iconst F.1 F.2.1 hd hv (k c p l e s m args below meth cd H locs cells slots ls F R L hc hs V)
theorem x_bipush {n : Int} {v : Int32} (hd : decode M.2.1 pc = .ok (.bipush n, 2)) (hv : (Int8.ofInt n).toInt32 = v) (k : X M d mc ms Q kc ks (pc + 2) lv (.int v :: st) σ) : X M d mc ms Q kc ks pc lv st σ := by
  intro c p l e s m args below meth cd H locs cells slots ls F R L hc hs V
  exact lv_bipush F.1 F.2.1 hd hv (k c p l e s m args below meth cd H locs cells slots ls F R L hc hs V)
theorem x_sipush {n : Int} {v : Int32} (hd : decode M.2.1 pc = .ok (.sipush n, 3)) (hv : (Int16.ofInt n).toInt32 = v) (k : X M d mc ms Q kc ks (pc + 3) lv (.int v :: st) σ) : X M d mc ms Q kc ks pc lv st σ := by
  intro c p l e s m args below meth cd H locs cells slots ls F R L hc hs V
  exact lv_sipush F.1 F.2.1 hd hv (k c p l e s m args below meth cd H locs cells slots ls F R L hc hs V)
theorem x_lconst {n : Fin 2} {v : Int64} (hd : decode M.2.1 pc = .ok (.lconst n, 1)) (hv : Int64.ofNat (n : Nat) = v) (k : X M d mc ms Q kc ks (pc + 1) lv (.long v :: st) σ) : X M d mc ms Q kc ks pc lv st σ := by
  intro c p l e s m args below meth cd H locs cells slots ls F R L hc hs V
  exact lv_lconst F.1 F.2.1 hd hv (k c p l e s m args below meth cd H locs cells slots ls F R L hc hs V)
theorem x_ldc {i : Nat} {v : Int32} (hw : Cond.constant M.1.cls i v ∈ gtb) (hd : decode M.2.1 pc = .ok (.ldc i, 2)) (k : X M d mc ms Q kc ks (pc + 2) lv (.int v :: st) σ) : X M d mc ms Q kc ks pc lv st σ := by
  intro c p l e s m args below meth cd H locs cells slots ls F R L hc hs V
  exact lv_ldc F.1 F.2.1 F.2.2.2.2.2.1 (F.2.2.2.2.2.2.2.1 _ hw) hd (k c p l e s m args below meth cd H locs cells slots ls F R L hc hs V)
theorem x_ldcw {i : Nat} {v : Int32} (hw : Cond.constant M.1.cls i v ∈ gtb) (hd : decode M.2.1 pc = .ok (.ldc_w i, 3)) (k : X M d mc ms Q kc ks (pc + 3) lv (.int v :: st) σ) : X M d mc ms Q kc ks pc lv st σ := by
  intro c p l e s m args below meth cd H locs cells slots ls F R L hc hs V
  exact lv_ldcw F.1 F.2.1 F.2.2.2.2.2.1 (F.2.2.2.2.2.2.2.1 _ hw) hd (k c p l e s m args below meth cd H locs cells slots ls F R L hc hs V)
theorem x_ldc2 {i : Nat} {v : Int64} (hw : Cond.constantLong M.1.cls i v ∈ gtb) (hd : decode M.2.1 pc = .ok (.ldc2_w i, 3)) (k : X M d mc ms Q kc ks (pc + 3) lv (.long v :: st) σ) : X M d mc ms Q kc ks pc lv st σ := by
  intro c p l e s m args below meth cd H locs cells slots ls F R L hc hs V
  exact lv_ldc2 F.1 F.2.1 F.2.2.2.2.2.1 (F.2.2.2.2.2.2.2.1 _ hw) hd (k c p l e s m args below meth cd H locs cells slots ls F R L hc hs V)
theorem x_iload_n {i : Fin 4} {x : Int32} (hd : decode M.2.1 pc = .ok (.iload_n i, 1)) (hl : lv[(i : Nat)]? = some (some (.int x))) (k : X M d mc ms Q kc ks (pc + 1) lv (.int x :: st) σ) : X M d mc ms Q kc ks pc lv st σ := by
  intro c p l e s m args below meth cd H locs cells slots ls F R L hc hs V
  exact lv_iload_n F.1 F.2.1 hd rfl (V.at hl) (k c p l e s m args below meth cd H locs cells slots ls F R L hc hs V)
theorem x_iload {i : Nat} {x : Int32} (hd : decode M.2.1 pc = .ok (.iload i, 2)) (hl : lv[i]? = some (some (.int x))) (k : X M d mc ms Q kc ks (pc + 2) lv (.int x :: st) σ) : X M d mc ms Q kc ks pc lv st σ := by
  intro c p l e s m args below meth cd H locs cells slots ls F R L hc hs V
  exact lv_iload F.1 F.2.1 hd (V.at hl) (k c p l e s m args below meth cd H locs cells slots ls F R L hc hs V)
theorem x_lload_n {i : Fin 4} {x : Int64} (hd : decode M.2.1 pc = .ok (.lload_n i, 1)) (hl : lv[(i : Nat)]? = some (some (.long x))) (k : X M d mc ms Q kc ks (pc + 1) lv (.long x :: st) σ) : X M d mc ms Q kc ks pc lv st σ := by
  intro c p l e s m args below meth cd H locs cells slots ls F R L hc hs V
  exact lv_lload_n F.1 F.2.1 hd rfl (V.at hl) (k c p l e s m args below meth cd H locs cells slots ls F R L hc hs V)
theorem x_lload {i : Nat} {x : Int64} (hd : decode M.2.1 pc = .ok (.lload i, 2)) (hl : lv[i]? = some (some (.long x))) (k : X M d mc ms Q kc ks (pc + 2) lv (.long x :: st) σ) : X M d mc ms Q kc ks pc lv st σ := by
  intro c p l e s m args below meth cd H locs cells slots ls F R L hc hs V
  exact lv_lload F.1 F.2.1 hd (V.at hl) (k c p l e s m args below meth cd H locs cells slots ls F R L hc hs V)
theorem x_aload_n {i : Fin 4} {x : Nat} (hd : decode M.2.1 pc = .ok (.aload_n i, 1)) (hl : lv[(i : Nat)]? = some (some (.ref x))) (k : X M d mc ms Q kc ks (pc + 1) lv (.ref x :: st) σ) : X M d mc ms Q kc ks pc lv st σ := by
  intro c p l e s m args below meth cd H locs cells slots ls F R L hc hs V
  exact lv_aload_n F.1 F.2.1 hd rfl (V.at hl) (k c p l e s m args below meth cd H locs cells slots ls F R L hc hs V)
theorem x_aload {i : Nat} {x : Nat} (hd : decode M.2.1 pc = .ok (.aload i, 2)) (hl : lv[i]? = some (some (.ref x))) (k : X M d mc ms Q kc ks (pc + 2) lv (.ref x :: st) σ) : X M d mc ms Q kc ks pc lv st σ := by
  intro c p l e s m args below meth cd H locs cells slots ls F R L hc hs V
  exact lv_aload F.1 F.2.1 hd (V.at hl) (k c p l e s m args below meth cd H locs cells slots ls F R L hc hs V)
theorem zv_cat (c : ZX) (v : Value) : (zv c v).category = v.category := by cases v <;> rfl
def zok1 (lv : List (Option Value)) : Nat → Bool
  | 0 => true
  | j + 1 => match lv[j]? with
    | some (some v) => v.category != 2
    | _ => true
theorem zLv.of1 {c : ZX} {ls : Array Slot} {nL i : Nat} {v : Value} (h : lv_has ls nL ((i, zv c v) :: (lvA 0 (lv.map (Option.map (zv c)))).filter (fun q => !(q.1 == i) && !(q.1 + 1 == i && q.2.category == 2)))) (hok : zok1 lv i = true) : zLv c ls nL (lv.set i (some v)) := by
  refine ⟨h.1, h.2.1, fun q hq => ?_⟩
  obtain ⟨j, h1, h2⟩ := (lvA_mem _ 0 _).mp hq
  rw [List.getElem?_map] at h2
  by_cases hj : j = i
  · subst hj
    have hlt : j < lv.length := by
      cases hx : (lv.set j (some v))[j]? with
      | none => rw [hx] at h2; cases h2
      | some w => simpa using (List.getElem?_eq_some_iff.mp hx).1
    rw [List.getElem?_set_self hlt] at h2
    have e : zv c v = q.2 := by simpa using h2
    have e1 : q.1 = j := by omega
    rw [e1, ← e]
    exact h.2.2 (j, zv c v) List.mem_cons_self
  · rw [List.getElem?_set_ne (fun z => hj z.symm)] at h2
    refine h.2.2 q (List.mem_cons_of_mem _ (List.mem_filter.mpr ⟨(lvA_mem _ 0 _).mpr ⟨j, h1, by rw [List.getElem?_map]; exact h2⟩, ?_⟩))
    have e1 : q.1 = j := by omega
    cases hx : lv[j]? with
    | none => rw [hx] at h2; cases h2
    | some w =>
      rw [hx] at h2
      cases w with
      | none => cases h2
      | some u =>
        have e : zv c u = q.2 := by simpa using h2
        have e2 : ¬ (j + 1 = i ∧ q.2.category = 2) := by
          rintro ⟨a, b⟩
          subst a
          rw [← e, zv_cat] at b
          simp [zok1, hx, b] at hok
        simp only [e1, Bool.and_eq_true, Bool.not_eq_true', beq_eq_false_iff_ne, ne_eq, Bool.and_eq_false_iff]
        refine ⟨hj, ?_⟩
        by_cases a : j + 1 = i
        · exact Or.inr (fun b => e2 ⟨a, b⟩)
        · exact Or.inl a
theorem zLv.of2 {c : ZX} {ls : Array Slot} {nL i : Nat} {v : Value} (h : lv_has ls nL ((i, zv c v) :: (lvA 0 (lv.map (Option.map (zv c)))).filter (fun q => !(q.1 == i) && (!(q.1 == i + 1) && !(q.1 + 1 == i && q.2.category == 2))))) (hok : zok1 lv i = true) : zLv c ls nL ((lv.set i (some v)).set (i + 1) none) := by
  refine ⟨h.1, h.2.1, fun q hq => ?_⟩
  obtain ⟨j, h1, h2⟩ := (lvA_mem _ 0 _).mp hq
  rw [List.getElem?_map] at h2
  by_cases hj2 : j = i + 1
  · subst hj2
    by_cases hlt : i + 1 < (lv.set i (some v)).length
    · rw [List.getElem?_set_self hlt] at h2
      cases h2
    · rw [List.getElem?_eq_none (by simpa using hlt)] at h2
      cases h2
  rw [List.getElem?_set_ne (fun z => hj2 z.symm)] at h2
  by_cases hj : j = i
  · subst hj
    have hlt : j < lv.length := by
      cases hx : (lv.set j (some v))[j]? with
      | none => rw [hx] at h2; cases h2
      | some w => simpa using (List.getElem?_eq_some_iff.mp hx).1
    rw [List.getElem?_set_self hlt] at h2
    have e : zv c v = q.2 := by simpa using h2
    have e1 : q.1 = j := by omega
    rw [e1, ← e]
    exact h.2.2 (j, zv c v) List.mem_cons_self
  · rw [List.getElem?_set_ne (fun z => hj z.symm)] at h2
    refine h.2.2 q (List.mem_cons_of_mem _ (List.mem_filter.mpr ⟨(lvA_mem _ 0 _).mpr ⟨j, h1, by rw [List.getElem?_map]; exact h2⟩, ?_⟩))
    have e1 : q.1 = j := by omega
    cases hx : lv[j]? with
    | none => rw [hx] at h2; cases h2
    | some w =>
      rw [hx] at h2
      cases w with
      | none => cases h2
      | some u =>
        have e : zv c u = q.2 := by simpa using h2
        have e2 : ¬ (j + 1 = i ∧ q.2.category = 2) := by
          rintro ⟨a, b⟩
          subst a
          rw [← e, zv_cat] at b
          simp [zok1, hx, b] at hok
        simp only [e1, Bool.and_eq_true, Bool.not_eq_true', beq_eq_false_iff_ne, ne_eq, Bool.and_eq_false_iff]
        refine ⟨hj, hj2, ?_⟩
        by_cases a : j + 1 = i
        · exact Or.inr (fun b => e2 ⟨a, b⟩)
        · exact Or.inl a
theorem x_istore_n {i : Fin 4} {x : Int32} (hd : decode M.2.1 pc = .ok (.istore_n i, 1)) (hn : (i : Nat) < M.2.2.1) (hok : zok1 lv (i : Nat) = true) (k : X M d mc ms Q kc ks (pc + 1) (lv.set (i : Nat) (some (.int x))) st σ) : X M d mc ms Q kc ks pc lv (.int x :: st) σ := by
  intro c p l e s m args below meth cd H locs cells slots ls F R L hc hs V
  exact lv_istore_n F.1 F.2.1 hd rfl V hn rfl (fun ls' V' => k c p l e s m args below meth cd H locs cells slots ls' F R L hc hs (zLv.of1 V' hok))
theorem x_istore {i : Nat} {x : Int32} (hd : decode M.2.1 pc = .ok (.istore i, 2)) (hn : i < M.2.2.1) (hok : zok1 lv i = true) (k : X M d mc ms Q kc ks (pc + 2) (lv.set i (some (.int x))) st σ) : X M d mc ms Q kc ks pc lv (.int x :: st) σ := by
  intro c p l e s m args below meth cd H locs cells slots ls F R L hc hs V
  exact lv_istore F.1 F.2.1 hd V hn rfl (fun ls' V' => k c p l e s m args below meth cd H locs cells slots ls' F R L hc hs (zLv.of1 V' hok))
theorem x_astore_n {i : Fin 4} {x : Nat} (hd : decode M.2.1 pc = .ok (.astore_n i, 1)) (hn : (i : Nat) < M.2.2.1) (hok : zok1 lv (i : Nat) = true) (k : X M d mc ms Q kc ks (pc + 1) (lv.set (i : Nat) (some (.ref x))) st σ) : X M d mc ms Q kc ks pc lv (.ref x :: st) σ := by
  intro c p l e s m args below meth cd H locs cells slots ls F R L hc hs V
  exact lv_astore_n F.1 F.2.1 hd rfl V hn rfl (fun ls' V' => k c p l e s m args below meth cd H locs cells slots ls' F R L hc hs (zLv.of1 V' hok))
theorem x_astore {i : Nat} {x : Nat} (hd : decode M.2.1 pc = .ok (.astore i, 2)) (hn : i < M.2.2.1) (hok : zok1 lv i = true) (k : X M d mc ms Q kc ks (pc + 2) (lv.set i (some (.ref x))) st σ) : X M d mc ms Q kc ks pc lv (.ref x :: st) σ := by
  intro c p l e s m args below meth cd H locs cells slots ls F R L hc hs V
  exact lv_astore F.1 F.2.1 hd V hn rfl (fun ls' V' => k c p l e s m args below meth cd H locs cells slots ls' F R L hc hs (zLv.of1 V' hok))
theorem x_lstore {i : Nat} {x : Int64} (hd : decode M.2.1 pc = .ok (.lstore i, 2)) (hn : i + 1 < M.2.2.1) (hok : zok1 lv i = true) (k : X M d mc ms Q kc ks (pc + 2) ((lv.set i (some (.long x))).set (i + 1) none) st σ) : X M d mc ms Q kc ks pc lv (.long x :: st) σ := by
  intro c p l e s m args below meth cd H locs cells slots ls F R L hc hs V
  exact lv_lstore F.1 F.2.1 hd V hn rfl (fun ls' V' => k c p l e s m args below meth cd H locs cells slots ls' F R L hc hs (zLv.of2 V' hok))
theorem x_iinc {i : Nat} {n : Int} {x v : Int32} (hd : decode M.2.1 pc = .ok (.iinc i n, 3)) (hl : lv[i]? = some (some (.int x))) (hv : x + Int32.ofInt n = v) (hn : i < M.2.2.1) (hok : zok1 lv i = true) (k : X M d mc ms Q kc ks (pc + 3) (lv.set i (some (.int v))) st σ) : X M d mc ms Q kc ks pc lv st σ := by
  intro c p l e s m args below meth cd H locs cells slots ls F R L hc hs V
  have hm : (i, Value.int x) ∈ lvA 0 (lv.map (Option.map (zv c))) := (lvA_mem _ 0 _).mpr ⟨i, by simp, by rw [List.getElem?_map, hl]; rfl⟩
  obtain ⟨j, hj⟩ := List.getElem?_of_mem hm
  exact lv_iinc F.1 F.2.1 hd V hj hv hn rfl (fun ls' V' => k c p l e s m args below meth cd H locs cells slots ls' F R L hc hs (zLv.of1 V' hok))
theorem x_iadd {x y : Int32} (hd : decode M.2.1 pc = .ok (.iadd, 1)) (k : X M d mc ms Q kc ks (pc + 1) lv (.int (x + y) :: st) σ) : X M d mc ms Q kc ks pc lv (.int y :: .int x :: st) σ := by
  intro c p l e s m args below meth cd H locs cells slots ls F R L hc hs V
  exact lv_iadd F.1 F.2.1 hd (k c p l e s m args below meth cd H locs cells slots ls F R L hc hs V)
theorem x_isub {x y : Int32} (hd : decode M.2.1 pc = .ok (.isub, 1)) (k : X M d mc ms Q kc ks (pc + 1) lv (.int (x - y) :: st) σ) : X M d mc ms Q kc ks pc lv (.int y :: .int x :: st) σ := by
  intro c p l e s m args below meth cd H locs cells slots ls F R L hc hs V
  exact lv_isub F.1 F.2.1 hd (k c p l e s m args below meth cd H locs cells slots ls F R L hc hs V)
theorem x_imul {x y : Int32} (hd : decode M.2.1 pc = .ok (.imul, 1)) (k : X M d mc ms Q kc ks (pc + 1) lv (.int (x * y) :: st) σ) : X M d mc ms Q kc ks pc lv (.int y :: .int x :: st) σ := by
  intro c p l e s m args below meth cd H locs cells slots ls F R L hc hs V
  exact lv_imul F.1 F.2.1 hd (k c p l e s m args below meth cd H locs cells slots ls F R L hc hs V)
theorem x_iand {x y : Int32} (hd : decode M.2.1 pc = .ok (.iand, 1)) (k : X M d mc ms Q kc ks (pc + 1) lv (.int (x &&& y) :: st) σ) : X M d mc ms Q kc ks pc lv (.int y :: .int x :: st) σ := by
  intro c p l e s m args below meth cd H locs cells slots ls F R L hc hs V
  exact lv_iand F.1 F.2.1 hd (k c p l e s m args below meth cd H locs cells slots ls F R L hc hs V)
theorem x_ior {x y : Int32} (hd : decode M.2.1 pc = .ok (.ior, 1)) (k : X M d mc ms Q kc ks (pc + 1) lv (.int (x ||| y) :: st) σ) : X M d mc ms Q kc ks pc lv (.int y :: .int x :: st) σ := by
  intro c p l e s m args below meth cd H locs cells slots ls F R L hc hs V
  exact lv_ior F.1 F.2.1 hd (k c p l e s m args below meth cd H locs cells slots ls F R L hc hs V)
theorem x_ixor {x y : Int32} (hd : decode M.2.1 pc = .ok (.ixor, 1)) (k : X M d mc ms Q kc ks (pc + 1) lv (.int (x ^^^ y) :: st) σ) : X M d mc ms Q kc ks pc lv (.int y :: .int x :: st) σ := by
  intro c p l e s m args below meth cd H locs cells slots ls F R L hc hs V
  exact lv_ixor F.1 F.2.1 hd (k c p l e s m args below meth cd H locs cells slots ls F R L hc hs V)
theorem x_ishl {x y : Int32} (hd : decode M.2.1 pc = .ok (.ishl, 1)) (k : X M d mc ms Q kc ks (pc + 1) lv (.int (x <<< (y &&& 31)) :: st) σ) : X M d mc ms Q kc ks pc lv (.int y :: .int x :: st) σ := by
  intro c p l e s m args below meth cd H locs cells slots ls F R L hc hs V
  exact lv_ishl F.1 F.2.1 hd (k c p l e s m args below meth cd H locs cells slots ls F R L hc hs V)
theorem x_ishr {x y : Int32} (hd : decode M.2.1 pc = .ok (.ishr, 1)) (k : X M d mc ms Q kc ks (pc + 1) lv (.int (x >>> (y &&& 31)) :: st) σ) : X M d mc ms Q kc ks pc lv (.int y :: .int x :: st) σ := by
  intro c p l e s m args below meth cd H locs cells slots ls F R L hc hs V
  exact lv_ishr F.1 F.2.1 hd (k c p l e s m args below meth cd H locs cells slots ls F R L hc hs V)
theorem x_idiv {x y : Int32} (hd : decode M.2.1 pc = .ok (.idiv, 1)) (hne : ¬ y = 0) (k : X M d mc ms Q kc ks (pc + 1) lv (.int (x / y) :: st) σ) : X M d mc ms Q kc ks pc lv (.int y :: .int x :: st) σ := by
  intro c p l e s m args below meth cd H locs cells slots ls F R L hc hs V
  exact lv_idiv F.1 F.2.1 hd hne (k c p l e s m args below meth cd H locs cells slots ls F R L hc hs V)
theorem x_irem {x y : Int32} (hd : decode M.2.1 pc = .ok (.irem, 1)) (hne : ¬ y = 0) (k : X M d mc ms Q kc ks (pc + 1) lv (.int (x - x / y * y) :: st) σ) : X M d mc ms Q kc ks pc lv (.int y :: .int x :: st) σ := by
  intro c p l e s m args below meth cd H locs cells slots ls F R L hc hs V
  exact lv_irem F.1 F.2.1 hd hne (k c p l e s m args below meth cd H locs cells slots ls F R L hc hs V)
theorem x_ineg {x : Int32} (hd : decode M.2.1 pc = .ok (.ineg, 1)) (k : X M d mc ms Q kc ks (pc + 1) lv (.int (-x) :: st) σ) : X M d mc ms Q kc ks pc lv (.int x :: st) σ := by
  intro c p l e s m args below meth cd H locs cells slots ls F R L hc hs V
  exact lv_ineg F.1 F.2.1 hd (k c p l e s m args below meth cd H locs cells slots ls F R L hc hs V)
theorem x_iushr {x y : Int32} (hd : decode M.2.1 pc = .ok (.iushr, 1)) (k : X M d mc ms Q kc ks (pc + 1) lv (.int (x.toUInt32 >>> (y.toUInt32 &&& Int32.toUInt32 31)).toInt32 :: st) σ) : X M d mc ms Q kc ks pc lv (.int y :: .int x :: st) σ := by
  intro c p l e s m args below meth cd H locs cells slots ls F R L hc hs V
  exact lv_iushr F.1 F.2.1 hd rfl (k c p l e s m args below meth cd H locs cells slots ls F R L hc hs V)
theorem x_ladd {x y : Int64} (hd : decode M.2.1 pc = .ok (.ladd, 1)) (k : X M d mc ms Q kc ks (pc + 1) lv (.long (x + y) :: st) σ) : X M d mc ms Q kc ks pc lv (.long y :: .long x :: st) σ := by
  intro c p l e s m args below meth cd H locs cells slots ls F R L hc hs V
  exact lv_ladd F.1 F.2.1 hd (k c p l e s m args below meth cd H locs cells slots ls F R L hc hs V)
theorem x_lsub {x y : Int64} (hd : decode M.2.1 pc = .ok (.lsub, 1)) (k : X M d mc ms Q kc ks (pc + 1) lv (.long (x - y) :: st) σ) : X M d mc ms Q kc ks pc lv (.long y :: .long x :: st) σ := by
  intro c p l e s m args below meth cd H locs cells slots ls F R L hc hs V
  exact lv_lsub F.1 F.2.1 hd (k c p l e s m args below meth cd H locs cells slots ls F R L hc hs V)
theorem x_lmul {x y : Int64} (hd : decode M.2.1 pc = .ok (.lmul, 1)) (k : X M d mc ms Q kc ks (pc + 1) lv (.long (x * y) :: st) σ) : X M d mc ms Q kc ks pc lv (.long y :: .long x :: st) σ := by
  intro c p l e s m args below meth cd H locs cells slots ls F R L hc hs V
  exact lv_lmul F.1 F.2.1 hd (k c p l e s m args below meth cd H locs cells slots ls F R L hc hs V)
theorem x_ldiv {x y : Int64} (hd : decode M.2.1 pc = .ok (.ldiv, 1)) (hne : ¬ y = 0) (k : X M d mc ms Q kc ks (pc + 1) lv (.long (x / y) :: st) σ) : X M d mc ms Q kc ks pc lv (.long y :: .long x :: st) σ := by
  intro c p l e s m args below meth cd H locs cells slots ls F R L hc hs V
  exact lv_ldiv F.1 F.2.1 hd hne (k c p l e s m args below meth cd H locs cells slots ls F R L hc hs V)
theorem x_lrem {x y : Int64} (hd : decode M.2.1 pc = .ok (.lrem, 1)) (hne : ¬ y = 0) (k : X M d mc ms Q kc ks (pc + 1) lv (.long (x - x / y * y) :: st) σ) : X M d mc ms Q kc ks pc lv (.long y :: .long x :: st) σ := by
  intro c p l e s m args below meth cd H locs cells slots ls F R L hc hs V
  exact lv_lrem F.1 F.2.1 hd hne (k c p l e s m args below meth cd H locs cells slots ls F R L hc hs V)
theorem x_i2l {x : Int32} (hd : decode M.2.1 pc = .ok (.i2l, 1)) (k : X M d mc ms Q kc ks (pc + 1) lv (.long x.toInt64 :: st) σ) : X M d mc ms Q kc ks pc lv (.int x :: st) σ := by
  intro c p l e s m args below meth cd H locs cells slots ls F R L hc hs V
  exact lv_i2l F.1 F.2.1 hd rfl (k c p l e s m args below meth cd H locs cells slots ls F R L hc hs V)
theorem x_l2i {x : Int64} (hd : decode M.2.1 pc = .ok (.l2i, 1)) (k : X M d mc ms Q kc ks (pc + 1) lv (.int x.toInt32 :: st) σ) : X M d mc ms Q kc ks pc lv (.long x :: st) σ := by
  intro c p l e s m args below meth cd H locs cells slots ls F R L hc hs V
  exact lv_l2i F.1 F.2.1 hd rfl (k c p l e s m args below meth cd H locs cells slots ls F R L hc hs V)
theorem x_i2b {x : Int32} (hd : decode M.2.1 pc = .ok (.i2b, 1)) (k : X M d mc ms Q kc ks (pc + 1) lv (.int x.toInt8.toInt32 :: st) σ) : X M d mc ms Q kc ks pc lv (.int x :: st) σ := by
  intro c p l e s m args below meth cd H locs cells slots ls F R L hc hs V
  exact lv_i2b F.1 F.2.1 hd rfl (k c p l e s m args below meth cd H locs cells slots ls F R L hc hs V)
theorem x_i2s {x : Int32} (hd : decode M.2.1 pc = .ok (.i2s, 1)) (k : X M d mc ms Q kc ks (pc + 1) lv (.int x.toInt16.toInt32 :: st) σ) : X M d mc ms Q kc ks pc lv (.int x :: st) σ := by
  intro c p l e s m args below meth cd H locs cells slots ls F R L hc hs V
  exact lv_i2s F.1 F.2.1 hd rfl (k c p l e s m args below meth cd H locs cells slots ls F R L hc hs V)
theorem x_lcmp {x y : Int64} (hd : decode M.2.1 pc = .ok (.lcmp, 1)) (k : X M d mc ms Q kc ks (pc + 1) lv (.int (lg_cmp x y) :: st) σ) : X M d mc ms Q kc ks pc lv (.long y :: .long x :: st) σ := by
  intro c p l e s m args below meth cd H locs cells slots ls F R L hc hs V
  exact W.lcmp F.1 F.2.1 hd (k c p l e s m args below meth cd H locs cells slots ls F R L hc hs V)
theorem x_dup {v : Value} (hd : decode M.2.1 pc = .ok (.dup, 1)) (hv : v.category = 1) (k : X M d mc ms Q kc ks (pc + 1) lv (v :: v :: st) σ) : X M d mc ms Q kc ks pc lv (v :: st) σ := by
  intro c p l e s m args below meth cd H locs cells slots ls F R L hc hs V
  exact lv_dup F.1 F.2.1 hd (by rw [zv_cat]; exact hv) (k c p l e s m args below meth cd H locs cells slots ls F R L hc hs V)
theorem x_pop {v : Value} (hd : decode M.2.1 pc = .ok (.pop, 1)) (hv : v.category = 1) (k : X M d mc ms Q kc ks (pc + 1) lv st σ) : X M d mc ms Q kc ks pc lv (v :: st) σ := by
  intro c p l e s m args below meth cd H locs cells slots ls F R L hc hs V
  exact lv_pop F.1 F.2.1 hd (by rw [zv_cat]; exact hv) (k c p l e s m args below meth cd H locs cells slots ls F R L hc hs V)
theorem x_goto {off : Int} {tgt : Nat} (hd : decode M.2.1 pc = .ok (.goto off, 3)) (ht : (pc : Int) + off = (tgt : Int)) (k : X M d mc ms Q kc ks tgt lv st σ) : X M d mc ms Q kc ks pc lv st σ := by
  intro c p l e s m args below meth cd H locs cells slots ls F R L hc hs V
  exact lv_goto F.1 F.2.1 hd ht (k c p l e s m args below meth cd H locs cells slots ls F R L hc hs V)
theorem x_icmp_eq {x y : Int32} {off : Int} {tgt : Nat} (hd : decode M.2.1 pc = .ok (.if_icmp .eq off, 3)) (ht : (pc : Int) + off = (tgt : Int)) (kt : x = y → X M d mc ms Q kc ks tgt lv st σ) (kf : ¬ x = y → X M d mc ms Q kc ks (pc + 3) lv st σ) : X M d mc ms Q kc ks pc lv (.int y :: .int x :: st) σ := by
  intro c p l e s m args below meth cd H locs cells slots ls F R L hc hs V
  exact lv_icmp_eq F.1 F.2.1 hd ht (fun h => kt h c p l e s m args below meth cd H locs cells slots ls F R L hc hs V) (fun h => kf h c p l e s m args below meth cd H locs cells slots ls F R L hc hs V)
theorem x_if_eq {x : Int32} {off : Int} {tgt : Nat} (hd : decode M.2.1 pc = .ok (.ifCond .eq off, 3)) (ht : (pc : Int) + off = (tgt : Int)) (kt : x = 0 → X M d mc ms Q kc ks tgt lv st σ) (kf : ¬ x = 0 → X M d mc ms Q kc ks (pc + 3) lv st σ) : X M d mc ms Q kc ks pc lv (.int x :: st) σ := by
  intro c p l e s m args below meth cd H locs cells slots ls F R L hc hs V
  exact lv_if_eq F.1 F.2.1 hd ht (fun h => kt h c p l e s m args below meth cd H locs cells slots ls F R L hc hs V) (fun h => kf h c p l e s m args below meth cd H locs cells slots ls F R L hc hs V)
theorem x_icmp_ne {x y : Int32} {off : Int} {tgt : Nat} (hd : decode M.2.1 pc = .ok (.if_icmp .ne off, 3)) (ht : (pc : Int) + off = (tgt : Int)) (kt : ¬ x = y → X M d mc ms Q kc ks tgt lv st σ) (kf : x = y → X M d mc ms Q kc ks (pc + 3) lv st σ) : X M d mc ms Q kc ks pc lv (.int y :: .int x :: st) σ := by
  intro c p l e s m args below meth cd H locs cells slots ls F R L hc hs V
  exact lv_icmp_ne F.1 F.2.1 hd ht (fun h => kt h c p l e s m args below meth cd H locs cells slots ls F R L hc hs V) (fun h => kf h c p l e s m args below meth cd H locs cells slots ls F R L hc hs V)
theorem x_if_ne {x : Int32} {off : Int} {tgt : Nat} (hd : decode M.2.1 pc = .ok (.ifCond .ne off, 3)) (ht : (pc : Int) + off = (tgt : Int)) (kt : ¬ x = 0 → X M d mc ms Q kc ks tgt lv st σ) (kf : x = 0 → X M d mc ms Q kc ks (pc + 3) lv st σ) : X M d mc ms Q kc ks pc lv (.int x :: st) σ := by
  intro c p l e s m args below meth cd H locs cells slots ls F R L hc hs V
  exact lv_if_ne F.1 F.2.1 hd ht (fun h => kt h c p l e s m args below meth cd H locs cells slots ls F R L hc hs V) (fun h => kf h c p l e s m args below meth cd H locs cells slots ls F R L hc hs V)
theorem x_icmp_lt {x y : Int32} {off : Int} {tgt : Nat} (hd : decode M.2.1 pc = .ok (.if_icmp .lt off, 3)) (ht : (pc : Int) + off = (tgt : Int)) (kt : x < y → X M d mc ms Q kc ks tgt lv st σ) (kf : ¬ x < y → X M d mc ms Q kc ks (pc + 3) lv st σ) : X M d mc ms Q kc ks pc lv (.int y :: .int x :: st) σ := by
  intro c p l e s m args below meth cd H locs cells slots ls F R L hc hs V
  exact lv_icmp_lt F.1 F.2.1 hd ht (fun h => kt h c p l e s m args below meth cd H locs cells slots ls F R L hc hs V) (fun h => kf h c p l e s m args below meth cd H locs cells slots ls F R L hc hs V)
theorem x_if_lt {x : Int32} {off : Int} {tgt : Nat} (hd : decode M.2.1 pc = .ok (.ifCond .lt off, 3)) (ht : (pc : Int) + off = (tgt : Int)) (kt : x < 0 → X M d mc ms Q kc ks tgt lv st σ) (kf : ¬ x < 0 → X M d mc ms Q kc ks (pc + 3) lv st σ) : X M d mc ms Q kc ks pc lv (.int x :: st) σ := by
  intro c p l e s m args below meth cd H locs cells slots ls F R L hc hs V
  exact lv_if_lt F.1 F.2.1 hd ht (fun h => kt h c p l e s m args below meth cd H locs cells slots ls F R L hc hs V) (fun h => kf h c p l e s m args below meth cd H locs cells slots ls F R L hc hs V)
theorem x_icmp_ge {x y : Int32} {off : Int} {tgt : Nat} (hd : decode M.2.1 pc = .ok (.if_icmp .ge off, 3)) (ht : (pc : Int) + off = (tgt : Int)) (kt : y ≤ x → X M d mc ms Q kc ks tgt lv st σ) (kf : ¬ y ≤ x → X M d mc ms Q kc ks (pc + 3) lv st σ) : X M d mc ms Q kc ks pc lv (.int y :: .int x :: st) σ := by
  intro c p l e s m args below meth cd H locs cells slots ls F R L hc hs V
  exact lv_icmp_ge F.1 F.2.1 hd ht (fun h => kt h c p l e s m args below meth cd H locs cells slots ls F R L hc hs V) (fun h => kf h c p l e s m args below meth cd H locs cells slots ls F R L hc hs V)
theorem x_if_ge {x : Int32} {off : Int} {tgt : Nat} (hd : decode M.2.1 pc = .ok (.ifCond .ge off, 3)) (ht : (pc : Int) + off = (tgt : Int)) (kt : 0 ≤ x → X M d mc ms Q kc ks tgt lv st σ) (kf : ¬ 0 ≤ x → X M d mc ms Q kc ks (pc + 3) lv st σ) : X M d mc ms Q kc ks pc lv (.int x :: st) σ := by
  intro c p l e s m args below meth cd H locs cells slots ls F R L hc hs V
  exact lv_if_ge F.1 F.2.1 hd ht (fun h => kt h c p l e s m args below meth cd H locs cells slots ls F R L hc hs V) (fun h => kf h c p l e s m args below meth cd H locs cells slots ls F R L hc hs V)
theorem x_icmp_gt {x y : Int32} {off : Int} {tgt : Nat} (hd : decode M.2.1 pc = .ok (.if_icmp .gt off, 3)) (ht : (pc : Int) + off = (tgt : Int)) (kt : y < x → X M d mc ms Q kc ks tgt lv st σ) (kf : ¬ y < x → X M d mc ms Q kc ks (pc + 3) lv st σ) : X M d mc ms Q kc ks pc lv (.int y :: .int x :: st) σ := by
  intro c p l e s m args below meth cd H locs cells slots ls F R L hc hs V
  exact lv_icmp_gt F.1 F.2.1 hd ht (fun h => kt h c p l e s m args below meth cd H locs cells slots ls F R L hc hs V) (fun h => kf h c p l e s m args below meth cd H locs cells slots ls F R L hc hs V)
theorem x_if_gt {x : Int32} {off : Int} {tgt : Nat} (hd : decode M.2.1 pc = .ok (.ifCond .gt off, 3)) (ht : (pc : Int) + off = (tgt : Int)) (kt : 0 < x → X M d mc ms Q kc ks tgt lv st σ) (kf : ¬ 0 < x → X M d mc ms Q kc ks (pc + 3) lv st σ) : X M d mc ms Q kc ks pc lv (.int x :: st) σ := by
  intro c p l e s m args below meth cd H locs cells slots ls F R L hc hs V
  exact lv_if_gt F.1 F.2.1 hd ht (fun h => kt h c p l e s m args below meth cd H locs cells slots ls F R L hc hs V) (fun h => kf h c p l e s m args below meth cd H locs cells slots ls F R L hc hs V)
theorem x_icmp_le {x y : Int32} {off : Int} {tgt : Nat} (hd : decode M.2.1 pc = .ok (.if_icmp .le off, 3)) (ht : (pc : Int) + off = (tgt : Int)) (kt : x ≤ y → X M d mc ms Q kc ks tgt lv st σ) (kf : ¬ x ≤ y → X M d mc ms Q kc ks (pc + 3) lv st σ) : X M d mc ms Q kc ks pc lv (.int y :: .int x :: st) σ := by
  intro c p l e s m args below meth cd H locs cells slots ls F R L hc hs V
  exact lv_icmp_le F.1 F.2.1 hd ht (fun h => kt h c p l e s m args below meth cd H locs cells slots ls F R L hc hs V) (fun h => kf h c p l e s m args below meth cd H locs cells slots ls F R L hc hs V)
theorem x_if_le {x : Int32} {off : Int} {tgt : Nat} (hd : decode M.2.1 pc = .ok (.ifCond .le off, 3)) (ht : (pc : Int) + off = (tgt : Int)) (kt : x ≤ 0 → X M d mc ms Q kc ks tgt lv st σ) (kf : ¬ x ≤ 0 → X M d mc ms Q kc ks (pc + 3) lv st σ) : X M d mc ms Q kc ks pc lv (.int x :: st) σ := by
  intro c p l e s m args below meth cd H locs cells slots ls F R L hc hs V
  exact lv_if_le F.1 F.2.1 hd ht (fun h => kt h c p l e s m args below meth cd H locs cells slots ls F R L hc hs V) (fun h => kf h c p l e s m args below meth cd H locs cells slots ls F R L hc hs V)
theorem x_lookup {dflt : Int} {ps : Array (Int × Int)} {len : Nat} {x : Int32} {off : Int} {tgt : Nat} (hd : decode M.2.1 pc = .ok (.lookupswitch dflt ps, len)) (hp : (ps.toList.zip (ps.toList.drop 1)).all (fun (a, next) => a.1 < next.1) = true) (ho : Op.lookupswitch.offset ps.toList dflt x.toInt = off) (ht : (pc : Int) + off = (tgt : Int)) (k : X M d mc ms Q kc ks tgt lv st σ) : X M d mc ms Q kc ks pc lv (.int x :: st) σ := by
  intro c p l e s m args below meth cd H locs cells slots ls F R L hc hs V
  exact lv_lookup F.1 F.2.1 hd hp ho ht (k c p l e s m args below meth cd H locs cells slots ls F R L hc hs V)
theorem x_tableOut {dflt lo hi : Int} {offs : Array Int} {len : Nat} {x : Int32} {tgt : Nat} (hd : decode M.2.1 pc = .ok (.tableswitch dflt lo hi offs, len)) (h : x.toInt < lo ∨ hi < x.toInt) (ht : (pc : Int) + dflt = (tgt : Int)) (k : X M d mc ms Q kc ks tgt lv st σ) : X M d mc ms Q kc ks pc lv (.int x :: st) σ := by
  intro c p l e s m args below meth cd H locs cells slots ls F R L hc hs V
  exact lv_tableOut F.1 F.2.1 hd h ht (k c p l e s m args below meth cd H locs cells slots ls F R L hc hs V)
theorem x_tableIn {dflt lo hi : Int} {offs : Array Int} {len : Nat} {x : Int32} {off : Int} {tgt : Nat} (hd : decode M.2.1 pc = .ok (.tableswitch dflt lo hi offs, len)) (h1 : ¬ x.toInt < lo) (h2 : ¬ hi < x.toInt) (ho : offs[(x.toInt - lo).toNat]? = some off) (ht : (pc : Int) + off = (tgt : Int)) (k : X M d mc ms Q kc ks tgt lv st σ) : X M d mc ms Q kc ks pc lv (.int x :: st) σ := by
  intro c p l e s m args below meth cd H locs cells slots ls F R L hc hs V
  exact lv_tableIn F.1 F.2.1 hd h1 h2 ho ht (k c p l e s m args below meth cd H locs cells slots ls F R L hc hs V)
theorem x_iret {v : Int32} (hk : kc ≤ mc ∧ ks ≤ ms) (hr : M.2.2.2 = some .int) (hd : decode M.2.1 pc = .ok (.ireturn, 1)) (hq : Q (some (.int v)) σ) : X M d mc ms Q kc ks pc lv [.int v] σ := by
  intro c p l e s m args below meth cd H locs cells slots ls F R L hc hs V
  have hlocks : meth.locks = false := F.2.2.2.2.1
  refine W.widen (k := mc) (n := ms) (Nat.le_trans hc hk.1) (Nat.le_trans hs hk.2) ?_
  exact W.iret (v := v) F.1 F.2.1 (F.2.2.1.trans hr) (fun t ht hW => ⟨some (.int v), σ, rfl, by rw [ht]; exact R, hq⟩) L hd
theorem x_zret {v : Int32} {ty : FieldType} (hk : kc ≤ mc ∧ ks ≤ ms) (hr : M.2.2.2 = some ty) (hn : narrow ty (.int v) = .int v) (hd : decode M.2.1 pc = .ok (.ireturn, 1)) (hq : Q (some (.int v)) σ) : X M d mc ms Q kc ks pc lv [.int v] σ := by
  intro c p l e s m args below meth cd H locs cells slots ls F R L hc hs V
  have hlocks : meth.locks = false := F.2.2.2.2.1
  refine W.widen (k := mc) (n := ms) (Nat.le_trans hc hk.1) (Nat.le_trans hs hk.2) ?_
  exact W.zret (v := v) F.1 F.2.1 (F.2.2.1.trans hr) hn (fun t ht hW => ⟨some (.int v), σ, rfl, by rw [ht]; exact R, hq⟩) L hd
theorem x_lret {v : Int64} (hk : kc ≤ mc ∧ ks ≤ ms) (hr : M.2.2.2 = some .long) (hd : decode M.2.1 pc = .ok (.lreturn, 1)) (hq : Q (some (.long v)) σ) : X M d mc ms Q kc ks pc lv [.long v] σ := by
  intro c p l e s m args below meth cd H locs cells slots ls F R L hc hs V
  have hlocks : meth.locks = false := F.2.2.2.2.1
  refine W.widen (k := mc) (n := ms) (Nat.le_trans hc hk.1) (Nat.le_trans hs hk.2) ?_
  exact W.lret (v := v) F.1 F.2.1 (F.2.2.1.trans hr) (fun t ht hW => ⟨some (.long v), σ, rfl, by rw [ht]; exact R, hq⟩) L hd
theorem x_vret (hk : kc ≤ mc ∧ ks ≤ ms) (hr : M.2.2.2 = none) (hd : decode M.2.1 pc = .ok (.return_, 1)) (hq : Q none σ) : X M d mc ms Q kc ks pc lv [] σ := by
  intro c p l e s m args below meth cd H locs cells slots ls F R L hc hs V
  have hlocks : meth.locks = false := F.2.2.2.2.1
  refine W.widen (k := mc) (n := ms) (Nat.le_trans hc hk.1) (Nat.le_trans hs hk.2) ?_
  exact W.vret F.1 F.2.1 (F.2.2.1.trans hr) (fun t ht hW => ⟨none, σ, rfl, by rw [ht]; exact R, hq⟩) L hd
theorem x_st {σ' : ZS} (h : σ = σ') (k : X M d mc ms Q kc ks pc lv st σ') : X M d mc ms Q kc ks pc lv st σ := h ▸ k
theorem x_topi {x y : Int32} (h : x = y) (k : X M d mc ms Q kc ks pc lv (.int y :: st) σ) : X M d mc ms Q kc ks pc lv (.int x :: st) σ := h ▸ k
theorem x_lv {lv' : List (Option Value)} (h : lv = lv') (k : X M d mc ms Q kc ks pc lv' st σ) : X M d mc ms Q kc ks pc lv st σ := h ▸ k
theorem x_wide {kc' ks' : Nat} (h1 : kc ≤ kc') (h2 : ks ≤ ks') (k : X M d mc ms Q kc' ks' pc lv st σ) : X M d mc ms Q kc ks pc lv st σ := fun c p l e s m args below meth cd H locs cells slots ls F R L hc hs V => k c p l e s m args below meth cd H locs cells slots ls F R L (Nat.le_trans hc h1) (Nat.le_trans hs h2) V
end Rows
