/-! the world at the law's start -/
theorem arr_prim {s : State} {args : Array Value} {ty : FieldType} (h : (Cond.arrayClass ty).before args s = true) : ∃ cA : ClassId, ArrOfT s cA ty ∧ s.vm.findClass ("[" ++ ty.toString) = some cA := by
  obtain ⟨cA, kA, comp, h1, h2, h3⟩ := Cond.arrayClass_spec h
  exact ⟨cA, fun n z => ⟨fun k h => (by cases h), kA, h2, comp, h3⟩, h1⟩
theorem arr_obj {s : State} {args : Array Value} {C : String} (h : (Cond.arrayOver (.object C)).before args s = true) : ∃ cA : ClassId, ArrOfT s cA (.object C) ∧ va_RA s cA (.object C) := by
  obtain ⟨comp, cA, kA, h1, -, h2, h3, h4⟩ := Cond.arrayOver_spec h
  exact ⟨cA, fun n z => ⟨fun k h => (by cases h), kA, h2, comp, h3⟩, kA, comp, h2, h3, h1, h4⟩
theorem zcl_in : ∀ (ci : Nat) (q : vw_C), zcl[ci]? = some q → Cond.instantiable q.1 q.2.2 ∈ tables_1
  | 0, _, h => by cases h; exact List.mem_of_getElem? (i := 72) (by decide +kernel)
  | 1, _, h => by cases h; exact List.mem_of_getElem? (i := 27) (by decide +kernel)
  | 2, _, h => by cases h; exact List.mem_of_getElem? (i := 155) (by decide +kernel)
  | 3, _, h => by cases h; exact List.mem_of_getElem? (i := 79) (by decide +kernel)
  | 4, _, h => by cases h; exact List.mem_of_getElem? (i := 106) (by decide +kernel)
  | 5, _, h => by cases h; exact List.mem_of_getElem? (i := 197) (by decide +kernel)
  | 6, _, h => by cases h; exact List.mem_of_getElem? (i := 19) (by decide +kernel)
  | 7, _, h => by cases h; exact List.mem_of_getElem? (i := 832) (by decide +kernel)
  | k + 8, _, h => by simp [zcl] at h
theorem znest_in : ∀ w ∈ znest, w.onTables = true ∧ w ∈ tables_1 := by
  intro w hw
  simp only [znest, List.mem_cons, List.not_mem_nil, or_false] at hw
  rcases hw with rfl | rfl | rfl | rfl | rfl | rfl | rfl
  · exact ⟨rfl, List.mem_of_getElem? (i := 28) (by decide +kernel)⟩
  · exact ⟨rfl, List.mem_of_getElem? (i := 107) (by decide +kernel)⟩
  · exact ⟨rfl, List.mem_of_getElem? (i := 156) (by decide +kernel)⟩
  · exact ⟨rfl, List.mem_of_getElem? (i := 198) (by decide +kernel)⟩
  · exact ⟨rfl, List.mem_of_getElem? (i := 277) (by decide +kernel)⟩
  · exact ⟨rfl, List.mem_of_getElem? (i := 577) (by decide +kernel)⟩
  · exact ⟨rfl, List.mem_of_getElem? (i := 603) (by decide +kernel)⟩
abbrev fgv : List Cond := flatC (Jvm.Cond.and given_1 narrow_1)
set_option maxRecDepth 100000 in
theorem n_len : ∀ i : Nat, i < 12 → zlen.getD i 0 < 2 ^ 31 := by decide +kernel
set_option maxRecDepth 100000 in
theorem n_ex : ∀ i : Nat, i < 12 → Cond.exactly (Term.string RX3 (128 + 2 * i)) "java/lang/String" ∈ fgv := by decide +kernel
set_option maxRecDepth 100000 in
theorem n_co : ∀ i : Nat, i < 12 → Cond.eq (.field (Term.string RX3 (128 + 2 * i)) "java/lang/String" "coder" "B") (.int 0) ∈ fgv := by decide +kernel
set_option maxRecDepth 100000 in
theorem n_ar : ∀ i : Nat, i < 12 → Cond.arrayOf (.field (Term.string RX3 (128 + 2 * i)) "java/lang/String" "value" "[B") .byte ∈ fgv := by decide +kernel
set_option maxRecDepth 100000 in
theorem n_le : ∀ i : Nat, i < 12 → Cond.eq (.length (.field (Term.string RX3 (128 + 2 * i)) "java/lang/String" "value" "[B")) (.int (Int32.ofNat (zlen.getD i 0))) ∈ fgv := by decide +kernel
set_option maxRecDepth 100000 in
theorem n_el : ∀ i : Nat, i < 12 → ∀ j : Nat, j < zlen.getD i 0 → Cond.eq (.elem (.field (Term.string RX3 (128 + 2 * i)) "java/lang/String" "value" "[B") (.int (Int32.ofNat j))) (.int ((zbyt.getD i []).getD j 0)) ∈ fgv := by decide +kernel
set_option maxRecDepth 100000 in
theorem n_ne : ∀ i : Nat, i < 12 → ∀ j : Nat, j < 12 → i ≠ j → Cond.not (.eq (Term.string RX3 (128 + 2 * i)) (Term.string RX3 (128 + 2 * j))) ∈ fgv ∨ Cond.not (.eq (Term.string RX3 (128 + 2 * j)) (Term.string RX3 (128 + 2 * i))) ∈ fgv := by decide +kernel
set_option maxRecDepth 100000 in
theorem n_ab : ∀ j : Nat, j < 6 → Cond.eq (.elem (.static RX0 "ABOVE" "[I") (.int (Int32.ofNat j))) (.int (zabv.getD j 0)) ∈ fgv := by decide +kernel
set_option maxRecDepth 100000 in
theorem n_rest : Cond.arrayOf (.static RX0 "ABOVE" "[I") .int ∈ fgv ∧ Cond.eq (.length (.static RX0 "ABOVE" "[I")) (.int (Int32.ofNat 6)) ∈ fgv ∧ Cond.eq (.static RJ0 "COMPACT_STRINGS" "Z") (.int 1) ∈ fgv ∧ Cond.isRef (.static RJ3 "SIOOBE_FORMATTER" "Ljava/util/function/BiFunction;") ∈ fgv := by decide +kernel
theorem n_sr : ∀ i : Nat, i < 12 → Cond.stringRef RX3 (128 + 2 * i) (ztx.getD i "") ∈ tables_1 := by
  intro i hi
  rcases (show i = 0 ∨ i = 1 ∨ i = 2 ∨ i = 3 ∨ i = 4 ∨ i = 5 ∨ i = 6 ∨ i = 7 ∨ i = 8 ∨ i = 9 ∨ i = 10 ∨ i = 11 by omega) with rfl | rfl | rfl | rfl | rfl | rfl | rfl | rfl | rfl | rfl | rfl | rfl
  · exact List.mem_of_getElem? (i := 365) (by decide +kernel)
  · exact List.mem_of_getElem? (i := 366) (by decide +kernel)
  · exact List.mem_of_getElem? (i := 367) (by decide +kernel)
  · exact List.mem_of_getElem? (i := 368) (by decide +kernel)
  · exact List.mem_of_getElem? (i := 369) (by decide +kernel)
  · exact List.mem_of_getElem? (i := 370) (by decide +kernel)
  · exact List.mem_of_getElem? (i := 371) (by decide +kernel)
  · exact List.mem_of_getElem? (i := 372) (by decide +kernel)
  · exact List.mem_of_getElem? (i := 373) (by decide +kernel)
  · exact List.mem_of_getElem? (i := 374) (by decide +kernel)
  · exact List.mem_of_getElem? (i := 375) (by decide +kernel)
  · exact List.mem_of_getElem? (i := 376) (by decide +kernel)
theorem vk_cg {N : Nat} {len : List Nat} {byt : List (List Int32)} {adK adV adK' adV' : Nat → Nat} {A : Nat → Prop} {U : State} {H : Heap} (h : vk_S N len byt adK adV A U H) (h1 : ∀ i, i < N → adK' i = adK i) (h2 : ∀ i, i < N → adV' i = adV i) : vk_S N len byt adK' adV' A U H := by
  refine ⟨fun i hi => ?_, fun i j hi hj e => h.2 i j hi hj (by rw [← h1 i hi, ← h1 j hj]; exact e)⟩
  rw [h1 i hi, h2 i hi]
  exact h.1 i hi
theorem zK_start {s : State} {b : Nat} (hts : ∀ w ∈ lw_tbl, w.before #[Value.ref b] s = true) (hgv : (Jvm.Cond.and given_1 narrow_1).before #[Value.ref b] s = true) : ∃ c : ZX, zK c s ∧ c.1.1 = s.heap.size ∧ c.1.2 = s.heap ∧ c.2.2.2 26 = b := by
  have tb : ∀ w ∈ gtb, w.before #[Value.ref b] s = true := fun w h => hts w (List.mem_filter.mp h).1
  have tt : ∀ w ∈ tables_1, w.before #[Value.ref b] s = true := fun w h => hts w (List.mem_append_right _ h)
  have ff := flat_of_before _ hgv
  have hA : ∀ q : Nat, q < s.heap.size → ¬ (fun q : Nat => s.heap.size ≤ q) q := fun q h1 h2 => absurd h2 (by omega)
  obtain ⟨adK, adV, hvk, hev⟩ := vk_Sof (args := #[Value.ref b]) (s := s) (N := 12) (tm := fun i => Term.string RX3 (128 + 2 * i)) (len := zlen) (byt := zbyt) (A := fun q : Nat => s.heap.size ≤ q) n_len (fun i hi => ff _ (n_ex i hi)) (fun i hi => ff _ (n_co i hi)) (fun i hi => ff _ (n_ar i hi)) (fun i hi => ff _ (n_le i hi)) (fun i hi j hj => ff _ (n_el i hi j hj)) (fun i j hi hj hij => by
    rcases n_ne i hi j hj hij with h | h
    · exact Or.inl (ff _ h)
    · exact Or.inr (ff _ h)) hA
  obtain ⟨r1, r2, r3, r4⟩ := n_rest
  obtain ⟨ta, hta, hTa⟩ := va_Tof (N := 6) (f := fun j => .int (zabv.getD j 0)) (A := fun q : Nat => s.heap.size ≤ q) (by decide) (ff _ r1) (va_eqt (ff _ r2)) (fun j hj => va_eqt (ff _ (n_ab j hj))) hA
  have hZa := va_Zref (C := RX0) (n := "ABOVE") (d := "[I") (t := ta) (A := fun q : Nat => s.heap.size ≤ q) (tt _ (List.mem_of_getElem? (i := 830) (by decide +kernel))) (tt _ (List.mem_of_getElem? (i := 9) (by decide +kernel))) hta hA
  have hZc := va_Zof (C := RJ0) (n := "COMPACT_STRINGS") (d := "Z") (v := .int 1) (A := fun q : Nat => s.heap.size ≤ q) (tt _ (List.mem_of_getElem? (i := 390) (by decide +kernel))) (tt _ (List.mem_of_getElem? (i := 10) (by decide +kernel))) (va_eqt (ff _ r3)) hA
  have hZs := va_Zqof (C := RJ3) (n := "SIOOBE_FORMATTER") (d := "Ljava/util/function/BiFunction;") (A := fun q : Nat => s.heap.size ≤ q) (tt _ (List.mem_of_getElem? (i := 406) (by decide +kernel))) (tt _ (List.mem_of_getElem? (i := 12) (by decide +kernel))) (ff _ r4) hA
  obtain ⟨ts, v, hv, hZv⟩ : ∃ (ts : Nat) (v : Value), (v = .null ∨ v = .ref ts) ∧ va_Z RJ3 "SIOOBE_FORMATTER" "Ljava/util/function/BiFunction;" v (fun q : Nat => s.heap.size ≤ q) s s.heap := by
    rcases hZs with h | ⟨t, h⟩
    · exact ⟨0, .null, Or.inl rfl, h⟩
    · exact ⟨t, .ref t, Or.inr rfl, h⟩
  obtain ⟨a0, a1, a2⟩ := arr_prim (tt (.arrayClass .int) (List.mem_of_getElem? (i := 70) (by decide +kernel)))
  obtain ⟨b0, b1, b2⟩ := arr_prim (tt (.arrayClass .boolean) (List.mem_of_getElem? (i := 997) (by decide +kernel)))
  obtain ⟨o0, o1, o2⟩ := arr_obj (tt (.arrayOver (.object RX4)) (List.mem_of_getElem? (i := 78) (by decide +kernel)))
  obtain ⟨p0, p1, p2⟩ := arr_obj (tt (.arrayOver (.object RX6)) (List.mem_of_getElem? (i := 196) (by decide +kernel)))
  obtain ⟨dd, hdd⟩ := Classical.axiomOfChoice (show ∀ ci : Nat, ∃ d : ClassId × (Nat → Nat), ∀ q : vw_C, zcl[ci]? = some q → u_Kn s q.1 q.2.1 q.2.2 d.1 d.2 from fun ci => by
    cases hq : zcl[ci]? with
    | none => exact ⟨(0, fun _ => 0), fun q h => by cases h⟩
    | some q =>
      obtain ⟨cC, iS, hKn⟩ := u_known tb (zcl_ok ci q hq).1 (tt _ (zcl_in ci q hq))
      exact ⟨(cC, iS), fun q2 h => by cases h; exact hKn⟩)
  refine ⟨((s.heap.size, s.heap), (fun ci => (dd ci).1, fun ci => (dd ci).2), (fun t => if t = 0 then a0 else if t = 1 then b0 else if t = 2 then o0 else p0), (fun k => if k < 12 then adK k else if k = 12 then ta else if k < 25 then adV (k - 13) else if k = 25 then ts else b)), ⟨⟨fun ci q hq => hdd ci q hq, fun k q hq => ?_⟩, fun w hw => va_Nw.of (znest_in w hw).1 (tt w (znest_in w hw).2), ⟨va_AO.of (tt (.arrayOver (.object RX4)) (List.mem_of_getElem? (i := 78) (by decide +kernel))), va_AO.of (tt (.arrayOver (.object RX6)) (List.mem_of_getElem? (i := 196) (by decide +kernel)))⟩, rfl, ?_, fun k hk => ?_, hZa, hTa, hZc, v, hv, hZv⟩, rfl, rfl, rfl⟩
  · match k, hq with
    | 0, hq => cases hq; exact ⟨a1, a2⟩
    | 1, hq => cases hq; exact ⟨b1, b2⟩
    | 2, hq => cases hq; exact ⟨o1, o2⟩
    | 3, hq => cases hq; exact ⟨p1, p2⟩
    | k + 4, hq => simp [ztys] at hq
  · refine vk_cg hvk (fun i hi => if_pos hi) (fun i hi => ?_)
    show (if 13 + i < 12 then adK (13 + i) else if 13 + i = 12 then ta else if 13 + i < 25 then adV (13 + i - 13) else if 13 + i = 25 then ts else b) = adV i
    rw [if_neg (by omega), if_neg (by omega), if_pos (by omega), Nat.add_sub_cancel_left]
  · show vk_R RX3 (128 + 2 * k) (ztx.getD k "") (if k < 12 then adK k else if k = 12 then ta else if k < 25 then adV (k - 13) else if k = 25 then ts else b) s
    rw [if_pos hk]
    exact vk_R.of (tt _ (n_sr k hk)) (hev k hk)
