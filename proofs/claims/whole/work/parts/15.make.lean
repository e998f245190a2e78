/-! rows that make cells; copies; what lay there before -/
def zmk (cls : String) (idx ci : Nat) (fs : List Value) : Prop := ∃ (C : String) (T : u_T) (N : Nat) (ty : Nat → FieldType), zcl[ci]? = some (C, T, N) ∧ zty[ci]? = some ty ∧ N = fs.length ∧ (∀ j, j < N → defaultValue (ty j) = vp_V fs j) ∧ fs.all (fun v => match v with | .ref _ => false | _ => true) = true ∧ Cond.classLink cls idx C ∈ gtb ∧ Cond.instantiable C N ∈ gtb ∧ Cond.initialized C ∈ gtb
section Make
variable {M : MD} {d mc ms kc ks pc : Nat} {Q : Option Value → ZS → Prop} {lv : List (Option Value)} {st : List Value} {σ : ZS}
theorem zv_all (c : ZX) : ∀ fs : List Value, fs.all (fun v => match v with | .ref _ => false | _ => true) = true → fs.map (zv c) = fs
  | [], _ => rfl
  | v :: r, h => by
    rw [List.all_cons, Bool.and_eq_true] at h
    rw [List.map_cons, zv_all c r h.2]
    congr 1
    cases v <;> first | rfl | (exact absurd h.1 (by simp))
theorem x_new {idx ci kr : Nat} {fs : List Value} (hm : zmk M.1.cls idx ci fs) (hz : zq kr σ) (h1 : kc + 1 ≤ mc) (h2 : ks + fs.length ≤ ms) (hd : decode M.2.1 pc = .ok (.new idx, 3)) (k : X M d mc ms Q (kc + 1) (ks + fs.length) (pc + 3) lv (.ref (zn kr σ) :: st) (zp kr σ (.inr (.inr (ci, fs))))) : X M d mc ms Q kc ks pc lv st σ := by
  intro c p l e s m args below meth cd H locs cells slots ls F R L hc hs V
  obtain ⟨C, T, N, ty, hcl, hty, rfl, hfs, hall, w1, w2, w3⟩ := hm
  obtain ⟨hin, ⟨ty', hty', hty0⟩, hnm⟩ := zcl_ok ci _ hcl
  obtain rfl : ty = ty' := Option.some.inj (hty.symm.trans hty')
  have hts := F.2.2.2.2.2.2.2.1
  have hKn := F.2.2.2.2.2.2.2.2.1.1 ci _ hcl
  have hat := zn_at R hz
  refine W.newcK (g := F0 m pc ls (st.map (zv c))) F.1 F.2.1 F.2.2.2.2.2.1 (hts _ w1) (hts _ w2) (hts _ w3) rfl hd (by show _ ≤ mc; omega) (by show _ ≤ ms; omega) hKn.2.1 hat.symm fun H1 kC hkC e1 z1 o1 => ?_
  refine k c p l e s m args below meth cd H1 locs _ _ ls F (R.push hz ?_ trivial (by rw [z1, hat]) (fun q hq => o1 q (by rw [hat]; exact hq))) L (by omega) (by omega) V
  show va_at c.2.1 zcl (za c (zn kr σ), .inr (ci, fs.map (zv c))) H1
  rw [zv_all c fs hall]
  exact ⟨_, hcl, (u_born ty hts hin hKn hkC e1 hty0).to hfs⟩
theorem z_rep {n : Nat} : (fun k => (List.replicate n (0 : Int32)).getD k 0) = fun _ => 0 := by
  funext k
  rw [List.getD_eq_getElem?_getD]
  by_cases h : k < n
  · rw [List.getElem?_replicate, if_pos h]; rfl
  · rw [List.getElem?_replicate, if_neg h]; rfl
theorem x_newI {n kr : Nat} {x : Int32} (hw : Cond.arrayClass .int ∈ gtb) (hx : x = nI n) (hn : n ≤ 1000000) (hz : zq kr σ) (h1 : kc + 1 ≤ mc) (h2 : ks + n ≤ ms) (hd : decode M.2.1 pc = .ok (.newarray .int, 2)) (k : X M d mc ms Q (kc + 1) (ks + n) (pc + 2) lv (.ref (zn kr σ) :: st) (zp kr σ (.inl (0, List.replicate n 0)))) : X M d mc ms Q kc ks pc lv (.int x :: st) σ := by
  intro c p l e s m args below meth cd H locs cells slots ls F R L hc hs V
  subst hx
  have hts := F.2.2.2.2.2.2.2.1
  have hat := zn_at R hz
  have hRA : s.vm.findClass ("[" ++ (FieldType.int).toString) = some (c.2.2.1 0) := (F.2.2.2.2.2.2.2.2.1.2 0 _ rfl).2
  refine va_newaK (atype := .int) (g := F0 m pc ls (.int (nI n) :: st.map (zv c))) (n := nI n) (N := n) (rest := st.map (zv c)) F.1 F.2.1 (hts _ hw) rfl hd rfl (nI_pos (by omega)) (nI_clamp (by omega)) (by show n * 4 ≤ _; omega) (by show _ ≤ mc; omega) (by show _ ≤ ms; omega) hat.symm fun H1 cA e1 z1 o1 _ f1 => ?_
  have hcA : cA = c.2.2.1 0 := Option.some.inj (f1.symm.trans hRA)
  subst hcA
  refine k c p l e s m args below meth cd H1 locs _ _ ls F (R.push hz ?_ (by show (List.replicate n 0).length ≤ _; rw [List.length_replicate]; exact hn) (by rw [z1, hat]) (fun q hq => o1 q (by rw [hat]; exact hq))) L (by omega) (by omega) V
  show H1[za c (zn kr σ)]? = some (vp_cell (c.2.2.1 0) ((List.replicate n 0).length, .inl (fun k => (List.replicate n 0).getD k 0)))
  rw [e1, z_rep, List.length_replicate]
  rfl
theorem x_newZ {n kr : Nat} {x : Int32} (hw : Cond.arrayClass .boolean ∈ gtb) (hx : x = nI n) (hn : n ≤ 1000000) (hz : zq kr σ) (h1 : kc + 1 ≤ mc) (h2 : ks + n ≤ ms) (hd : decode M.2.1 pc = .ok (.newarray .boolean, 2)) (k : X M d mc ms Q (kc + 1) (ks + n) (pc + 2) lv (.ref (zn kr σ) :: st) (zp kr σ (.inl (1, List.replicate n 0)))) : X M d mc ms Q kc ks pc lv (.int x :: st) σ := by
  intro c p l e s m args below meth cd H locs cells slots ls F R L hc hs V
  subst hx
  have hts := F.2.2.2.2.2.2.2.1
  have hat := zn_at R hz
  have hRA : s.vm.findClass ("[" ++ (FieldType.boolean).toString) = some (c.2.2.1 1) := (F.2.2.2.2.2.2.2.2.1.2 1 _ rfl).2
  refine va_newaK (atype := .boolean) (g := F0 m pc ls (.int (nI n) :: st.map (zv c))) (n := nI n) (N := n) (rest := st.map (zv c)) F.1 F.2.1 (hts _ hw) rfl hd rfl (nI_pos (by omega)) (nI_clamp (by omega)) (by show n * 1 ≤ _; omega) (by show _ ≤ mc; omega) (by show _ ≤ ms; omega) hat.symm fun H1 cA e1 z1 o1 _ f1 => ?_
  have hcA : cA = c.2.2.1 1 := Option.some.inj (f1.symm.trans hRA)
  subst hcA
  refine k c p l e s m args below meth cd H1 locs _ _ ls F (R.push hz ?_ (by show (List.replicate n 0).length ≤ _; rw [List.length_replicate]; exact hn) (by rw [z1, hat]) (fun q hq => o1 q (by rw [hat]; exact hq))) L (by omega) (by omega) V
  show H1[za c (zn kr σ)]? = some (vp_cell (c.2.2.1 1) ((List.replicate n 0).length, .inl (fun k => (List.replicate n 0).getD k 0)))
  rw [e1, z_rep, List.length_replicate]
  rfl
theorem z_repq {n : Nat} {c : ZX} : (fun k => ((List.replicate n (none : Option Nat)).getD k none).map (za c)) = fun _ => none := by
  funext k
  rw [List.getD_eq_getElem?_getD]
  by_cases h : k < n
  · rw [List.getElem?_replicate, if_pos h]; rfl
  · rw [List.getElem?_replicate, if_neg h]; rfl
theorem x_anew {idx n kr t : Nat} {x : Int32} {C : String} (ht : (t = 2 ∧ C = RX4) ∨ (t = 3 ∧ C = RX6)) (hw : Cond.classLink M.1.cls idx C ∈ gtb) (hx : x = nI n) (hn : n ≤ 1000000) (hz : zq kr σ) (h1 : kc + 1 ≤ mc) (h2 : ks + n ≤ ms) (hd : decode M.2.1 pc = .ok (.anewarray idx, 3)) (k : X M d mc ms Q (kc + 1) (ks + n) (pc + 3) lv (.ref (zn kr σ) :: st) (zp kr σ (.inr (.inl (t, List.replicate n none))))) : X M d mc ms Q kc ks pc lv (.int x :: st) σ := by
  intro c p l e s m args below meth cd H locs cells slots ls F R L hc hs V
  subst hx
  have hts := F.2.2.2.2.2.2.2.1
  have hat := zn_at R hz
  have hAO : va_AO C s := by
    rcases ht with ⟨-, rfl⟩ | ⟨-, rfl⟩
    · exact F.2.2.2.2.2.2.2.2.2.2.1.1
    · exact F.2.2.2.2.2.2.2.2.2.2.1.2
  have hRA : s.vm.findClass ("[" ++ (FieldType.object C).toString) = some (c.2.2.1 t) := by
    rcases ht with ⟨rfl, rfl⟩ | ⟨rfl, rfl⟩
    · exact (F.2.2.2.2.2.2.2.2.1.2 2 _ rfl).2.choose_spec.choose_spec.2.2.2
    · exact (F.2.2.2.2.2.2.2.2.1.2 3 _ rfl).2.choose_spec.choose_spec.2.2.2
  have hcl9 : (nI n).toNatClampNeg = n := nI_clamp (by omega)
  refine W.anew (g := F0 m pc ls (.int (nI n) :: st.map (zv c))) (rest := st.map (zv c)) F.1 F.2.1 F.2.2.2.2.2.1 (hts _ hw) (va_AO.use hAO) rfl hd rfl (nI_pos (by omega)) (by rw [hcl9]; omega) (by show _ ≤ mc; omega) (by rw [hcl9]; show _ ≤ ms; omega) fun cA kA comp f1 f2 f3 f4 => ?_
  rw [hcl9]
  have hcA : cA = c.2.2.1 t := Option.some.inj (f1.symm.trans hRA)
  subst hcA
  generalize hH1 : H.push ({ cls := c.2.2.1 t, slots := Array.replicate n .null, vm := .none } : Cell) = H1
  have z1 : H1.size = H.size + 1 := by rw [← hH1, Array.size_push]
  have e1 : H1[H.size]? = some (arrV (c.2.2.1 t) n (fun _ => .null)) := by rw [← hH1, Array.getElem?_push_size, ← arrV_new]
  have o1 : ∀ q : Nat, q < H.size → H1[q]? = H[q]? := fun q hq => by rw [← hH1, Array.getElem?_push, if_neg (Nat.ne_of_lt hq)]
  have k9 := k c p l e s m args below meth cd H1 locs _ _ ls F (R.push hz (by
    show H1[za c (zn kr σ)]? = some (vp_cell (c.2.2.1 t) ((List.replicate n none).length, .inr (.inr (.inr (.inr (fun k => ((List.replicate n none).getD k none).map (za c)))))))
    rw [hat, e1, z_repq, List.length_replicate]
    rfl) (by show (List.replicate n none).length ≤ _; rw [List.length_replicate]; exact hn) z1 o1) L (show cells + 1 ≤ kc + 1 by omega) (show slots + n ≤ ks + n by omega) V
  have e9 : (Value.ref (zn kr σ) :: st).map (zv c) = .ref H.size :: st.map (zv c) := by rw [← hat]; rfl
  rw [e9] at k9
  exact k9
theorem z_updq {a : List (Option Nat)} {n w : Nat} {c : ZX} (hn : n < a.length) : (fun j => ((a.set n (some w)).getD j none).map (za c)) = va_up (fun j => (a.getD j none).map (za c)) n (some (za c w)) := by
  funext j
  simp only [va_up, List.getD_eq_getElem?_getD]
  by_cases h : j = n
  · subst h
    rw [if_pos rfl, List.getElem?_set_self hn]; rfl
  · rw [if_neg h, List.getElem?_set_ne (fun q => h q.symm)]
theorem x_aast {r n t w ci : Nat} {x : Int32} {a : List (Option Nat)} {fs : List Value} (ht : (t = 2 ∧ ci = 3) ∨ (t = 3 ∧ ci = 5)) (hg : zg σ r = some (.inr (.inl (t, a)))) (hw : zg σ w = some (.inr (.inr (ci, fs)))) (hx : x = nI n) (hn : n < a.length) (hd : decode M.2.1 pc = .ok (.aastore, 1)) (k : X M d mc ms Q kc ks (pc + 1) lv st (zs σ r (.inr (.inl (t, a.set n (some w)))))) : X M d mc ms Q kc ks pc lv (.ref w :: .int x :: .ref r :: st) σ := by
  intro c p l e s m args below meth cd H locs cells slots ls F R L hc hs V
  obtain ⟨hP, hl⟩ := R.2.2.2.2.2 r _ hg
  obtain ⟨h1, h2⟩ := z_in hx hn hl
  have hK := F.2.2.2.2.2.2.2.2.1
  have hlt : x.toNatClampNeg < a.length := by rw [h2]; exact hn
  have h0 : ¬ x < 0 := fun q => h1 (Or.inl q)
  obtain ⟨q, hq, hq2⟩ : ∃ q : vw_C, zcl[ci]? = some q ∧ (ztys c)[t]? = some (c.2.2.1 t, .object q.1) := by
    rcases ht with ⟨rfl, rfl⟩ | ⟨rfl, rfl⟩
    · exact ⟨_, rfl, rfl⟩
    · exact ⟨_, rfl, rfl⟩
  obtain ⟨r', hr', cellV, g1, g2, g3, -⟩ := (R.2.2.2.2.2 w _ hw).1
  have hcls := (hK.1 ci q hq).2
  obtain ⟨kA, comp, k1, k2, k3, -⟩ := (hK.2 t _ hq2).2
  have hcomp : comp = c.2.1.1 ci := Option.some.inj (k3.symm.trans hcls.1)
  subst hcomp
  obtain ⟨kC, hkC, -⟩ := hcls.2
  have hP : H[za c r]? = some (vp_cell (c.2.2.1 t) (a.length, .inr (.inr (.inr (.inr (fun k => (a.getD k none).map (za c))))))) := hP
  refine W.aast (v := za c w) (j := x) (rest := st.map (zv c)) F.1 F.2.1 hP (fun q h => by cases h) (fun h => by cases h) k1 k2 rfl hkC ⟨h0, by show _ < (arrV _ _ _).slots.size; rw [arrV_size]; exact hlt⟩ g1 (fun q h => by rw [g3] at h; cases h) (by rw [g2]; exact hkC) (by rw [g2]; exact va_assign hcls) rfl rfl hd fun H1 e1 z oq => ?_
  refine k c p l e s m args below meth cd H1 _ cells slots ls F (R.set hg ?_ (by show (a.set n (some w)).length ≤ _; rw [List.length_set]; exact hl) z oq) (x_locs L (za_ge hg)) hc hs V
  show H1[za c r]? = some (vp_cell (c.2.2.1 t) ((a.set n (some w)).length, .inr (.inr (.inr (.inr (fun j => ((a.set n (some w)).getD j none).map (za c)))))))
  rw [e1, z_updq hn, List.length_set, vp_cell_q, vp_cell_q, arrV_store, h2]
  congr 2
  funext q
  by_cases hq : q = n
  · subst hq
    simp [updV, va_up, va_rf]
  · simp [updV, va_up, hq]
theorem x_copy {r1 r2 idx sp dp n : Nat} {x y z : Int32} {a b : List Int32} (hl : Cond.methodLink M.1.cls idx arraycopyName ∈ gtb) (hw : Cond.native arraycopyName ∈ gtb ∧ Cond.static arraycopyName ∈ gtb ∧ Cond.initialized "java/lang/System" ∈ gtb) (ha : zg σ r1 = some (.inl (0, a))) (hb : zg σ r2 = some (.inl (0, b))) (hx : x = nI sp) (hy : y = nI dp) (hz : z = nI n) (h4 : sp + n ≤ a.length) (h5 : dp + n ≤ b.length) (hdp : 1 ≤ d) (hcat : (st.map fun v => v.category).sum ≤ 8) (hd : decode M.2.1 pc = .ok (.invokestatic idx, 3)) (k : X M d mc ms Q kc ks (pc + 3) lv st (zs σ r2 (.inl (0, zcpy a b sp dp n)))) : X M d mc ms Q kc ks pc lv (.int z :: .int y :: .ref r2 :: .int x :: .ref r1 :: st) σ := by
  intro c p l e s m args below meth cd H locs cells slots ls F R L hc hs V
  obtain ⟨hP1, hl1⟩ := R.2.2.2.2.2 r1 _ ha
  obtain ⟨hP2, hl2⟩ := R.2.2.2.2.2 r2 _ hb
  have hl1 : a.length ≤ 1000000 := hl1
  have hl2 : b.length ≤ 1000000 := hl2
  have hts := F.2.2.2.2.2.2.2.1
  have hK := F.2.2.2.2.2.2.2.2.1
  have cx : x.toNatClampNeg = sp := by rw [hx]; exact nI_clamp (by omega)
  have cy : y.toNatClampNeg = dp := by rw [hy]; exact nI_clamp (by omega)
  have cz : z.toNatClampNeg = n := by rw [hz]; exact nI_clamp (by omega)
  have g1 : ¬ x < 0 := by rw [hx]; exact nI_pos (by omega)
  have g2 : ¬ y < 0 := by rw [hy]; exact nI_pos (by omega)
  have g3 : ¬ z < 0 := by rw [hz]; exact nI_pos (by omega)
  have nx : x.toInt = (sp : Int) := by rw [hx]; exact nI_toInt (by omega)
  have ny : y.toInt = (dp : Int) := by rw [hy]; exact nI_toInt (by omega)
  have nz : z.toInt = (n : Int) := by rw [hz]; exact nI_toInt (by omega)
  have hc0 : H[za c r1]? = some (vp_cell (c.2.2.1 0) (a.length, .inl (fun k => a.getD k 0))) := hP1
  have hc1 : H[za c r2]? = some (vp_cell (c.2.2.1 0) (b.length, .inl (fun k => b.getD k 0))) := hP2
  intro T hT X0
  obtain ⟨-, k0, hk0, cm0, hkk0⟩ := (hK.2 0 _ rfl).1 a.length (fun j => .int (a.getD j 0))
  obtain ⟨-, k1, hk1, cm1, hkk1⟩ := (hK.2 0 _ rfl).1 b.length (fun j => .int (b.getD j 0))
  have h8 := zcat (c := c) (m := m) (pc := pc) (ls := ls) (st0 := []) hcat
  obtain ⟨vm', X', step⟩ := X0.arraycopy F.1 F.2.2.2.2.2.1 (hts _ hl) (hts _ hw.1) (hts _ hw.2.1) (hts _ hw.2.2) (src := za c r1) (dst := za c r2) (cs := vp_cell (c.2.2.1 0) (a.length, .inl (fun k => a.getD k 0))) (cd := vp_cell (c.2.2.1 0) (b.length, .inl (fun k => b.getD k 0))) (srcPos := x) (destPos := y) (n := z) (by rw [hT]; exact hc0) (by rw [hT]; exact hc1)
    (fun _ h => by cases h) (fun _ h => by cases h) (fun h => by cases h) (fun h => by cases h) hk0 hk1 hkk0 hkk1 (by simp [refKind]) g1 g2 g3
    (by rw [nx, nz]; show ¬ _ > ((arrV _ a.length (fun j => .int (a.getD j 0))).slots.size : Int); rw [arrV_size]; omega)
    (by rw [ny, nz]; show ¬ _ > ((arrV _ b.length (fun j => .int (b.getD j 0))).slots.size : Int); rw [arrV_size]; omega)
    (fun vm₁ _ i hi => by
      have e9 : (vp_cell (c.2.2.1 0) (a.length, .inl (fun k => a.getD k 0))).slots.getD (x.toNatClampNeg + i) .null = .int (a.getD (x.toNatClampNeg + i) 0) := by
        show (arrV (c.2.2.1 0) a.length (fun j => .int (a.getD j 0))).slots.getD _ _ = _
        rw [Array.getD_eq_getD_getElem?, arrV_read _ _ (by omega)]
        rfl
      refine ⟨?_, ?_⟩
      · rw [e9]
        rfl
      · rw [e9]
        exact trivial)
    (g := F0 m pc ls (.int z :: .int y :: .ref (za c r2) :: .int x :: .ref (za c r1) :: st.map (zv c))) rfl (by rw [F.2.2.2.1]; exact V.1) (rest := st.map (zv c)) rfl (by rw [F.2.1]; exact hd) hdp (by
      have h9 : 2 * (F0 m pc ls (.int z :: .int y :: .ref (za c r2) :: .int x :: .ref (za c r1) :: st.map (zv c))).monitorRoom = 2 * (F0 m pc ls []).monitorRoom := rfl
      have h10 : nativeFrameWords "java/lang/System" "arraycopy" 5 ≤ 10 := by decide
      show _ ≤ 40 * d
      omega)
  have e1 : copied (vp_cell (c.2.2.1 0) (a.length, .inl (fun k => a.getD k 0))) (vp_cell (c.2.2.1 0) (b.length, .inl (fun k => b.getD k 0))) x y z = vp_cell (c.2.2.1 0) (b.length, .inl (va_cpy (fun k => a.getD k 0) (fun k => b.getD k 0) x.toNatClampNeg y.toNatClampNeg z.toNatClampNeg)) := va_copied (fun z => .int z) (c.2.2.1 0) (c.2.2.1 0) (fun k => a.getD k 0) (fun k => b.getD k 0) (show x.toNatClampNeg + z.toNatClampNeg ≤ a.length by rw [cx, cz]; exact h4)
  rw [e1, cx, cy, cz, ← zcpy_getD h5] at X' step
  have hlt : za c r2 < H.size := (Array.getElem?_eq_some_iff.mp hc1).1
  have hheap : ((T.setVm vm').setCell (za c r2) (vp_cell (c.2.2.1 0) (b.length, .inl (fun j => (zcpy a b sp dp n).getD j 0)))).heap = H.setIfInBounds (za c r2) (vp_cell (c.2.2.1 0) (b.length, .inl (fun j => (zcpy a b sp dp n).getD j 0))) := by rw [← hT]; rfl
  have oq : ∀ q : Nat, q ≠ za c r2 → (H.setIfInBounds (za c r2) (vp_cell (c.2.2.1 0) (b.length, .inl (fun j => (zcpy a b sp dp n).getD j 0))))[q]? = H[q]? := fun q hq => by simp [Array.getElem?_setIfInBounds, Ne.symm hq]
  obtain ⟨t, a1, b1⟩ := k c p l e s m args below meth cd _ _ cells slots ls F (R.set hb (show (H.setIfInBounds (za c r2) (vp_cell (c.2.2.1 0) (b.length, .inl (fun j => (zcpy a b sp dp n).getD j 0))))[za c r2]? = some (vp_cell (c.2.2.1 0) ((zcpy a b sp dp n).length, .inl (fun j => (zcpy a b sp dp n).getD j 0))) by rw [zcpy_len]; simp [Array.getElem?_setIfInBounds, hlt]) (by show (zcpy a b sp dp n).length ≤ _; rw [zcpy_len]; exact hl2) (by simp) oq) (fun q hq => by
      rcases List.mem_append.mp hq with h | h
      · exact L q h
      · obtain ⟨z, -, hz⟩ := List.mem_map.mp h
        rw [← hz]
        exact za_ge hb) hc hs V _ hheap X'
  exact ⟨t, step t a1, b1⟩
end Make
