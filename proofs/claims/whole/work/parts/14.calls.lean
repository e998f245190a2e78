/-! rows that make cells, and calls -/
def zcpy (a b : List Int32) (sp dp n : Nat) : List Int32 := (List.range b.length).map (fun j => if dp ≤ j ∧ j < dp + n then a.getD (sp + (j - dp)) 0 else b.getD j 0)
theorem zcpy_len {a b : List Int32} {sp dp n : Nat} : (zcpy a b sp dp n).length = b.length := by simp [zcpy]
theorem zcpy_getD {a b : List Int32} {sp dp n : Nat} (h : dp + n ≤ b.length) : (fun j => (zcpy a b sp dp n).getD j 0) = va_cpy (fun j => a.getD j 0) (fun j => b.getD j 0) sp dp n := by
  funext j
  by_cases hj : j < b.length
  · have e : (zcpy a b sp dp n).getD j 0 = if dp ≤ j ∧ j < dp + n then a.getD (sp + (j - dp)) 0 else b.getD j 0 := by
      rw [List.getD_eq_getElem?_getD, zcpy, List.getElem?_map, List.getElem?_range hj]; rfl
    rw [e]
    by_cases hc : dp ≤ j ∧ j < dp + n
    · rw [if_pos hc, pk_cpy_in hc.1 hc.2]
    · rw [if_neg hc, pk_cpy_out (by omega)]
  · have e : (zcpy a b sp dp n).getD j 0 = 0 := by
      rw [List.getD_eq_getElem?_getD, List.getElem?_eq_none (by rw [zcpy_len]; omega)]; rfl
    rw [e, pk_cpy_out (by omega), List.getD_eq_getElem?_getD, List.getElem?_eq_none (by omega)]; rfl
def zm (M2 : MD) (n : Nat) : Prop := Cond.code M2.1 M2.2.1 M2.2.2.1 M2.2.2.2 ∈ gtb ∧ Cond.initialized M2.1.cls ∈ gtb ∧ (M2.1.cls ≠ "java/lang/invoke/MethodHandle" ∧ M2.1.cls ≠ "java/lang/invoke/VarHandle") ∧ (parseMethodDescriptor M2.1.desc).map (fun d => d.parameters.length) = some n ∧ M2.2.2.1 ≤ 21
def zmS (M2 : MD) (n : Nat) : Prop := zm M2 n ∧ Cond.static M2.1 ∈ gtb
def zmV (M2 : MD) (n : Nat) : Prop := zm M2 n ∧ Cond.instanceMethod M2.1 ∈ gtb ∧ Cond.selects M2.1.cls M2.1 M2.1 ∈ gtb
def zmI (M2 : MD) (n : Nat) : Prop := zm M2 n ∧ Cond.instanceMethod M2.1 ∈ gtb ∧ M2.1.name = "<init>" ∧ M2.2.2.2 = none
theorem zw_warm {M2 : MD} {n : Nat} {s : State} {args : Array Value} (hm : zm M2 n) (hts : ∀ w ∈ gtb, w.before args s = true) : ∀ w ∈ zw M2, ∀ (a' : Array Value) (U : State), s.WarmedH U.vm → w.before a' U = true := by
  intro w hw a' U hW
  have hw2 : w ∈ gtb := by
    rcases List.mem_cons.mp hw with h | h
    · rw [h]; exact hm.1
    · exact h
  exact word_at hW (gt_good w hw2) (hts w hw2)
section Calls
variable {M : MD} {d mc ms kc ks pc : Nat} {Q : Option Value → ZS → Prop} {lv : List (Option Value)} {st : List Value} {σ : ZS}
theorem zblind {c : ZX} {σ : ZS} {as : List Value} : FrameBlind (va_Pc as (fun U => zR c σ U.heap ∧ zK c U)) := by
  intro a U g mk h
  obtain ⟨h1, h2, h3⟩ := h
  have hW : U.WarmedH (U.calling g mk a).vm := State.WarmedH.refl U
  exact ⟨h1, h2, h3.warm hW⟩
theorem zpre {c : ZX} {as : List Value} {s : State} {H : Heap} (R : zR c σ H) (hK : zK c s) : PreS s H (va_Pc (as.map (zv c)) (fun U => zR c σ U.heap ∧ zK c U)) (as.map (zv c)) :=
  ⟨zblind, fun U hU hW => ⟨rfl, by rw [hU]; exact R, hK.warm hW⟩⟩
theorem zcb {M2 : MD} {n d' mc2 ms2 idx : Nat} {s : State} {args : Array Value} (hm : zm M2 n) (hl : Cond.methodLink M.1.cls idx M2.1 ∈ gtb) (hd : d' + 1 ≤ d) (hts : ∀ w ∈ gtb, w.before args s = true) : CallB (zrm d mc ms) s args M.1.cls idx M2.1 M2.2.1 M2.2.2.1 M2.2.2.2 (zw M2) (zrm d' mc2 ms2) mc2 ms2 n := by
  refine ⟨rfl, rfl, hd, ?_, zw_warm hm hts, List.mem_cons_self, hts _ hm.1, hts _ hm.2.1, hm.2.2.1, fun sig h => ?_, hts _ hl⟩
  · have := hm.2.2.2.2
    show 8 + (M2.2.2.1 + 11) + 40 * d' ≤ 40 * d
    omega
  · have h2 := hm.2.2.2.1
    rw [h] at h2
    exact (Option.some.inj h2).symm
theorem zcn {M2 : MD} {n d' mc2 ms2 idx : Nat} {host : String} {s : State} {args : Array Value} (hm : zm M2 n) (hl : (Cond.methodLinkNest M.1.cls idx M2.1 host).before args s = true) (hd : d' + 1 ≤ d) (hts : ∀ w ∈ gtb, w.before args s = true) : va_CN (zrm d mc ms) s args M.1.cls idx M2.1 host M2.2.1 M2.2.2.1 M2.2.2.2 (zw M2) (zrm d' mc2 ms2) mc2 ms2 n := by
  refine ⟨⟨rfl, rfl, hd, ?_, zw_warm hm hts, List.mem_cons_self⟩, hts _ hm.1, hts _ hm.2.1, hm.2.2.1, fun sig h => ?_, hl⟩
  · have := hm.2.2.2.2
    show 8 + (M2.2.2.1 + 11) + 40 * d' ≤ 40 * d
    omega
  · have h2 := hm.2.2.2.1
    rw [h] at h2
    exact (Option.some.inj h2).symm
theorem zafter {c : ZX} {p : Program} {l : Launch} {e : Env} {s : State} {m : MethodId} {args : Array Value} {below : List Frame} {meth : Method} {cd : Code} {H : Heap} {locs : List Loc} {cells slots mc2 ms2 : Nat} {ls : Array Slot} {st0 : List Value} {rest : List Value} {a : Array Value} {Q2 : Option Value → ZS → Prop}
    (hr : va_Run p l e (zrm d mc ms) s m args below meth cd H locs cells slots mc2 ms2 (F0 m pc ls st0) (rest.map (zv c)) (zQ c Q2 a) (fun q => c.1.1 ≤ q)) (F : zF M c p s m args meth cd) (L : ∀ q ∈ locs, c.1.1 ≤ q.base) (hc : cells ≤ kc) (hs : slots ≤ ks) (V : zLv c ls M.2.2.1 lv)
    (k : ∀ (r : Option Value) (σ' : ZS), Q2 r σ' → X M d mc ms Q (kc + mc2) (ks + ms2) (pc + 3) lv (r.toList ++ rest) σ') : W p l e (zrm d mc ms) s m args below meth cd H locs cells slots (MQ below (zQ c Q) args s mc ms (fun q => c.1.1 ≤ q)) (F0 m pc ls st0) := by
  intro T hT X0
  obtain ⟨v, st₀, t, T', L', h0, X', hL, e1, e2, ⟨r, σ', hv, hR, hq⟩, stp⟩ := hr T hT X0
  have hv2 : v = r.map (zv c) := by cases hv; rfl
  subst hv2
  obtain ⟨t2, a1, b1⟩ := k r σ' hq c p l e s m args below meth cd T'.heap (locs ++ L') (cells + mc2) (slots + ms2) ls F (by rw [e1]; exact hR) (fun q hq2 => by
    rcases List.mem_append.mp hq2 with h | h
    · exact L q h
    · exact hL q h) (by omega) (by omega) V T' rfl X'
  refine ⟨t2, stp t2 ?_, b1⟩
  have e3 : (r.toList ++ rest).map (zv c) = (r.map (zv c)).toList ++ rest.map (zv c) := by cases r <;> rfl
  rw [e3] at a1
  exact a1
theorem zcat {c : ZX} {m : MethodId} {pc : Nat} {ls : Array Slot} {st0 rest : List Value} (h : (rest.map fun v => v.category).sum ≤ 8) : 2 * (F0 m pc ls st0).monitorRoom + ((rest.map (zv c)).map fun v => v.category).sum ≤ 8 := by
  have e : ((rest.map (zv c)).map fun v => v.category) = rest.map fun v => v.category := by
    rw [List.map_map]
    exact List.map_congr_left (fun v _ => zv_cat c v)
  rw [e]
  exact lv_room h
theorem x_callS {M2 : MD} {n idx kd mc2 ms2 : Nat} {as rest : List Value} {Q2 : Option Value → ZS → Prop} (hm : zmS M2 n) (hl : Cond.methodLink M.1.cls idx M2.1 ∈ gtb) (hC : Cn kd M2 mc2 ms2 as σ Q2) (hkd : kd + 1 ≤ d) (hst : st = as.reverse ++ rest) (hn : as.length = n) (hcat : (rest.map fun v => v.category).sum ≤ 8) (hroom : kc + mc2 ≤ mc ∧ ks + ms2 ≤ ms) (hd : decode M.2.1 pc = .ok (.invokestatic idx, 3))
    (k : ∀ (r : Option Value) (σ' : ZS), Q2 r σ' → X M d mc ms Q (kc + mc2) (ks + ms2) (pc + 3) lv (r.toList ++ rest) σ') : X M d mc ms Q kc ks pc lv st σ := by
  intro c p l e s m args below meth cd H locs cells slots ls F R L hc hs V
  have hM := hC (d - 1) (by omega) l c
  refine zafter (va_runS (As := as.map (zv c)) (rest := rest.map (zv c)) (n := n) ⟨F.1, F.2.1, F.2.2.2.1, F.2.2.2.2.2.1, F.2.2.2.2.2.2.2.1⟩ hM ⟨zcb hm.1 hl (by omega) F.2.2.2.2.2.2.2.1, F.2.2.2.2.2.2.2.1 _ hm.2⟩ (zpre R F.2.2.2.2.2.2.2.2) rfl (by rw [List.length_map]; exact hn) V.1 ?_ (zcat hcat) hd ⟨?_, ?_⟩) F L hc hs V k
  · rw [hst]; simp
  · show cells + mc2 ≤ mc; omega
  · show slots + ms2 ≤ ms; omega
theorem x_callSN {M2 : MD} {n idx kd mc2 ms2 : Nat} {host : String} {as rest : List Value} {Q2 : Option Value → ZS → Prop} (hm : zmS M2 n) (hl : Cond.methodLinkNest M.1.cls idx M2.1 host ∈ znest) (hC : Cn kd M2 mc2 ms2 as σ Q2) (hkd : kd + 1 ≤ d) (hst : st = as.reverse ++ rest) (hn : as.length = n) (hcat : (rest.map fun v => v.category).sum ≤ 8) (hroom : kc + mc2 ≤ mc ∧ ks + ms2 ≤ ms) (hd : decode M.2.1 pc = .ok (.invokestatic idx, 3))
    (k : ∀ (r : Option Value) (σ' : ZS), Q2 r σ' → X M d mc ms Q (kc + mc2) (ks + ms2) (pc + 3) lv (r.toList ++ rest) σ') : X M d mc ms Q kc ks pc lv st σ := by
  intro c p l e s m args below meth cd H locs cells slots ls F R L hc hs V
  have hM := hC (d - 1) (by omega) l c
  refine zafter (va_runSN (As := as.map (zv c)) (rest := rest.map (zv c)) (n := n) ⟨F.1, F.2.1, F.2.2.2.1, F.2.2.2.2.2.1, F.2.2.2.2.2.2.2.1⟩ hM ⟨zcn hm.1 (va_Nw.use rfl (F.2.2.2.2.2.2.2.2.2.1 _ hl)) (by omega) F.2.2.2.2.2.2.2.1, F.2.2.2.2.2.2.2.1 _ hm.2, trivial⟩ (zpre R F.2.2.2.2.2.2.2.2) rfl (by rw [List.length_map]; exact hn) V.1 ?_ (zcat hcat) hd ⟨?_, ?_⟩) F L hc hs V k
  · rw [hst]; simp
  · show cells + mc2 ≤ mc; omega
  · show slots + ms2 ≤ ms; omega
theorem zrecv {c : ZX} {s : State} {H : Heap} {r ci : Nat} {C : String} {T : u_T} {N : Nat} {fs : List Value} (hK : zK c s) (R : zR c σ H) (hc : zcl[ci]? = some (C, T, N)) (hg : zg σ r = some (.inr (.inr (ci, fs)))) : ∃ cellB : Cell, H[za c r]? = some cellB ∧ cellB.vm.isStatics = false ∧ s.vm.findClass C = some cellB.cls :=
  va_recv (ws := [(za c r, .inr (ci, fs.map (zv c)))]) (q0 := 0) hK.1 (va_one (R.2.2.2.2.2 r _ hg).1) hc rfl
theorem x_callV {M2 : MD} {n idx kd mc2 ms2 r ci : Nat} {as rest fs : List Value} {T : u_T} {N : Nat} {Q2 : Option Value → ZS → Prop} (hm : zmV M2 n) (hl : Cond.methodLink M.1.cls idx M2.1 ∈ gtb) (hC : Cn kd M2 mc2 ms2 (.ref r :: as) σ Q2) (hcl : zcl[ci]? = some (M2.1.cls, T, N)) (hg : zg σ r = some (.inr (.inr (ci, fs)))) (hkd : kd + 1 ≤ d) (hst : st = as.reverse ++ .ref r :: rest) (hn : as.length = n) (hcat : (rest.map fun v => v.category).sum ≤ 8) (hroom : kc + mc2 ≤ mc ∧ ks + ms2 ≤ ms) (hd : decode M.2.1 pc = .ok (.invokevirtual idx, 3))
    (k : ∀ (r : Option Value) (σ' : ZS), Q2 r σ' → X M d mc ms Q (kc + mc2) (ks + ms2) (pc + 3) lv (r.toList ++ rest) σ') : X M d mc ms Q kc ks pc lv st σ := by
  intro c p l e s m args below meth cd H locs cells slots ls F R L hc hs V
  have hM := hC (d - 1) (by omega) l c
  have hp := zpre (as := .ref r :: as) R F.2.2.2.2.2.2.2.2
  refine zafter (va_runV (b := za c r) (C := M2.1.cls) (As := as.map (zv c)) (rest := rest.map (zv c)) (n := n) ⟨F.1, F.2.1, F.2.2.2.1, F.2.2.2.2.2.1, F.2.2.2.2.2.2.2.1⟩ hM ⟨zcb hm.1 hl (by omega) F.2.2.2.2.2.2.2.1, F.2.2.2.2.2.2.2.1 _ hm.2.1, F.2.2.2.2.2.2.2.1 _ hm.2.2⟩ ⟨hp.1, zrecv F.2.2.2.2.2.2.2.2 R hcl hg, hp.2⟩ rfl (by rw [List.length_map]; exact hn) V.1 ?_ (zcat hcat) hd ⟨?_, ?_⟩) F L hc hs V k
  · rw [hst]; simp [zv]
  · show cells + mc2 ≤ mc; omega
  · show slots + ms2 ≤ ms; omega
theorem x_callI {M2 : MD} {n idx kd mc2 ms2 r : Nat} {as rest : List Value} {Q2 : Option Value → ZS → Prop} (hm : zmI M2 n) (hl : Cond.methodLink M.1.cls idx M2.1 ∈ gtb) (hC : Cn kd M2 mc2 ms2 (.ref r :: as) σ Q2) (hkd : kd + 1 ≤ d) (hst : st = as.reverse ++ .ref r :: rest) (hn : as.length = n) (hcat : (rest.map fun v => v.category).sum ≤ 8) (hroom : kc + mc2 ≤ mc ∧ ks + ms2 ≤ ms) (hd : decode M.2.1 pc = .ok (.invokespecial idx, 3))
    (k : ∀ (r : Option Value) (σ' : ZS), Q2 r σ' → X M d mc ms Q (kc + mc2) (ks + ms2) (pc + 3) lv (r.toList ++ rest) σ') : X M d mc ms Q kc ks pc lv st σ := by
  intro c p l e s m args below meth cd H locs cells slots ls F R L hc hs V
  have hM := hC (d - 1) (by omega) l c
  have hp := zpre (as := .ref r :: as) R F.2.2.2.2.2.2.2.2
  have hcb := zcb (d := d) (mc := mc) (ms := ms) (d' := d - 1) (mc2 := mc2) (ms2 := ms2) hm.1 hl (by omega) F.2.2.2.2.2.2.2.1
  rw [hm.2.2.2] at hcb
  refine zafter (va_runI (b := za c r) (As := as.map (zv c)) (rest := rest.map (zv c)) (n := n) ⟨F.1, F.2.1, F.2.2.2.1, F.2.2.2.2.2.1, F.2.2.2.2.2.2.2.1⟩ hM ⟨hcb, hm.2.2.1, F.2.2.2.2.2.2.2.1 _ hm.2.1⟩ hp rfl (by rw [List.length_map]; exact hn) V.1 ?_ (zcat hcat) hd ⟨?_, ?_⟩) F L hc hs V k
  · rw [hst]; simp [zv]
  · show cells + mc2 ≤ mc; omega
  · show slots + ms2 ≤ ms; omega
theorem x_callIN {M2 : MD} {n idx kd mc2 ms2 r : Nat} {host : String} {as rest : List Value} {Q2 : Option Value → ZS → Prop} (hm : zmI M2 n) (hl : Cond.methodLinkNest M.1.cls idx M2.1 host ∈ znest) (hC : Cn kd M2 mc2 ms2 (.ref r :: as) σ Q2) (hkd : kd + 1 ≤ d) (hst : st = as.reverse ++ .ref r :: rest) (hn : as.length = n) (hcat : (rest.map fun v => v.category).sum ≤ 8) (hroom : kc + mc2 ≤ mc ∧ ks + ms2 ≤ ms) (hd : decode M.2.1 pc = .ok (.invokespecial idx, 3))
    (k : ∀ (r : Option Value) (σ' : ZS), Q2 r σ' → X M d mc ms Q (kc + mc2) (ks + ms2) (pc + 3) lv (r.toList ++ rest) σ') : X M d mc ms Q kc ks pc lv st σ := by
  intro c p l e s m args below meth cd H locs cells slots ls F R L hc hs V
  have hM := hC (d - 1) (by omega) l c
  have hp := zpre (as := .ref r :: as) R F.2.2.2.2.2.2.2.2
  have hcb := zcn (d := d) (mc := mc) (ms := ms) (d' := d - 1) (mc2 := mc2) (ms2 := ms2) hm.1 (va_Nw.use (A := args) rfl (F.2.2.2.2.2.2.2.2.2.1 _ hl)) (by omega) F.2.2.2.2.2.2.2.1
  rw [hm.2.2.2] at hcb
  refine zafter (va_runIN (b := za c r) (As := as.map (zv c)) (rest := rest.map (zv c)) (n := n) ⟨F.1, F.2.1, F.2.2.2.1, F.2.2.2.2.2.1, F.2.2.2.2.2.2.2.1⟩ hM ⟨hcb, hm.2.2.1, F.2.2.2.2.2.2.2.1 _ hm.2.1⟩ hp rfl (by rw [List.length_map]; exact hn) V.1 ?_ (zcat hcat) hd ⟨?_, ?_⟩) F L hc hs V k
  · rw [hst]; simp [zv]
  · show cells + mc2 ≤ mc; omega
  · show slots + ms2 ≤ ms; omega
/-- Object's own constructor -/
theorem x_objInit {r idx : Nat} {rest : List Value} (hl : Cond.methodLink M.1.cls idx Lib.objectInit ∈ gtb) (hi : Cond.instanceMethod Lib.objectInit ∈ gtb) (hw : Cond.code Lib.objectInit ⟨#[0xb1]⟩ 1 none ∈ gtb) (hdp : 1 ≤ d) (hcat : (rest.map fun v => v.category).sum ≤ 8) (hd : decode M.2.1 pc = .ok (.invokespecial idx, 3)) (k : X M d mc ms Q kc ks (pc + 3) lv rest σ) : X M d mc ms Q kc ks pc lv (.ref r :: rest) σ := by
  intro c p l e s m args below meth cd H locs cells slots ls F R L hc hs V
  have h8 := zcat (c := c) (m := m) (pc := pc) (ls := ls) (st0 := []) hcat
  refine W.objInit (a := za c r) (rest := rest.map (zv c)) F.1 F.2.1 F.2.2.2.2.2.1 (F.2.2.2.2.2.2.2.1 _ hl) (F.2.2.2.2.2.2.2.1 _ hi) (F.2.2.2.2.2.2.2.1 _ hw) rfl (V.1.trans F.2.2.2.1.symm) rfl hd hdp ?_ (k c p l e s m args below meth cd H locs cells slots ls F R L hc hs V)
  show _ ≤ 40 * d
  have h9 : 2 * (F0 m pc ls (.ref (za c r) :: rest.map (zv c))).monitorRoom = 2 * (F0 m pc ls []).monitorRoom := rfl
  have h10 : 2 * (F0 m pc ls (List.map (zv c) (Value.ref r :: rest))).monitorRoom = 2 * (F0 m pc ls []).monitorRoom := rfl
  omega
def zen : List Value → Nat → List (Option Value)
  | [], n => List.replicate n none
  | v :: r, n => if v.category = 2 then some v :: none :: zen r (n - 2) else some v :: zen r (n - 1)
theorem zen_mem (c : ZX) : ∀ (as : List Value) (i n : Nat) (q : Nat × Value), q ∈ lvA i ((zen as n).map (Option.map (zv c))) → q ∈ lv_args i (as.map (zv c))
  | [], i, n, q, h => by
    exfalso
    obtain ⟨j, h1, h2⟩ := (lvA_mem _ _ _).mp h
    rw [zen, List.map_replicate] at h2
    have := (List.getElem?_eq_some_iff.mp h2)
    obtain ⟨h3, h4⟩ := this
    rw [List.getElem_replicate] at h4
    cases h4
  | v :: r, i, n, q, h => by
    rw [zen] at h
    show q ∈ (i, zv c v) :: lv_args (if (zv c v).category = 2 then i + 2 else i + 1) (r.map (zv c))
    rw [zv_cat]
    by_cases hv : v.category = 2
    · rw [if_pos hv] at h ⊢
      rcases List.mem_cons.mp h with h | h
      · exact List.mem_cons.mpr (Or.inl h)
      · exact List.mem_cons_of_mem _ (zen_mem c r (i + 2) _ q h)
    · rw [if_neg hv] at h ⊢
      rcases List.mem_cons.mp h with h | h
      · exact List.mem_cons.mpr (Or.inl h)
      · exact List.mem_cons_of_mem _ (zen_mem c r (i + 1) _ q h)
def zwd (as : List Value) : Nat := (as.map fun v => v.category).sum
theorem zwd_sl (c : ZX) : ∀ as : List Value, (lg_sl (as.map (zv c))).length = zwd as
  | [] => rfl
  | v :: r => by
    have ih := zwd_sl c r
    show ((if (zv c v).category = 2 then [Slot.val (zv c v), .second] else [.val (zv c v)]) ++ lg_sl (r.map (zv c))).length = v.category + zwd r
    rw [zv_cat, List.length_append, ih]
    rcases lv_cat v with h | h <;> simp [h]
theorem Cn.intro {kd : Nat} {M : MD} {as : List Value} {lv0 : List (Option Value)} (hp : plainName M.1.cls = true) (hw : zwd as ≤ M.2.2.1) (hlv : zen as M.2.2.1 = lv0) (h : ∀ d, kd ≤ d → X M d mc ms Q 0 0 0 lv0 [] σ) : Cn kd M mc ms as σ Q := by
  intro d hd l c
  refine Met.ofW (cc := M.2.1) (maxL := M.2.2.1) (ret := M.2.2.2) hp rfl ?_
  intro p e s m args below meth cd s₁ B hml hv
  obtain ⟨rfl, hR, hK⟩ := hv
  have hts := atoms_spec (ws := zw M) B.pre
  have hl := lv_entry (as.map (zv c)) (n := M.2.2.1) (by rw [zwd_sl]; exact hw)
  rw [lg_entry_eq]
  generalize (lg_sl (as.map (zv c)) ++ List.replicate (M.2.2.1 - (lg_sl (as.map (zv c))).length) Slot.unset).toArray = ls at hl ⊢
  have hV : zLv c ls M.2.2.1 lv0 := ⟨hl.1, hl.2.1, fun q hq => hl.2.2 q (zen_mem c as 0 M.2.2.1 q (by rw [hlv]; exact hq))⟩
  exact h d hd c p l e s m (as.map (zv c)).toArray below meth cd s.heap [] 0 0 ls ⟨B.exec, B.bytes, B.returns, hml, B.notSynchronized, findClass_of_methodNamed B.named, (name_of_methodNamed B.named B.method).1, fun w hw => hts w (List.mem_cons_of_mem _ hw), hK⟩ hR (fun q h => by cases h) (Nat.zero_le _) (Nat.zero_le _) hV
theorem Cn.post {kd : Nat} {M : MD} {as : List Value} {Q' : Option Value → ZS → Prop} (h : Cn kd M mc ms as σ Q) (hQ : ∀ r σ', Q r σ' → Q' r σ') : Cn kd M mc ms as σ Q' := by
  intro d hd l c p e ha hc hk s m args below hf happ hP hK0
  obtain ⟨k, o, h1, h2, h3, ⟨r, σ', h4, h5, h6⟩, h7⟩ := h d hd l c p e ha hc hk s m args below hf happ hP hK0
  exact ⟨k, o, h1, h2, h3, ⟨r, σ', h4, h5, hQ _ _ h6⟩, h7⟩
end Calls
