/-! rows of the instructions that touch cells -/
set_option maxRecDepth 100000 in
theorem i_X1 : ∀ w ∈ u_ws RX1 TX1 2, w ∈ gtb := by decide +kernel
set_option maxRecDepth 100000 in
theorem i_X2 : ∀ w ∈ u_ws RX2 TX2 8, w ∈ gtb := by decide +kernel
set_option maxRecDepth 100000 in
theorem i_X3 : ∀ w ∈ u_ws RX3 TX3 11, w ∈ gtb := by decide +kernel
set_option maxRecDepth 100000 in
theorem i_X4 : ∀ w ∈ u_ws RX4 TX4 4, w ∈ gtb := by decide +kernel
set_option maxRecDepth 100000 in
theorem i_X5 : ∀ w ∈ u_ws RX5 TX5 12, w ∈ gtb := by decide +kernel
set_option maxRecDepth 100000 in
theorem i_X6 : ∀ w ∈ u_ws RX6 TX6 3, w ∈ gtb := by decide +kernel
set_option maxRecDepth 100000 in
theorem i_X7 : ∀ w ∈ u_ws RX7 TX7 9, w ∈ gtb := by decide +kernel
set_option maxRecDepth 100000 in
theorem i_X8 : ∀ w ∈ u_ws RX8 TX8 52, w ∈ gtb := by decide +kernel
def zty : List (Nat → FieldType) := [tyX1, tyX2, tyX3, tyX4, tyX5, tyX6, tyX7, tyX8]
theorem zcl_ok : ∀ (ci : Nat) (q : vw_C), zcl[ci]? = some q → (∀ w ∈ u_ws q.1 q.2.1 q.2.2, w ∈ gtb) ∧ (∃ ty : Nat → FieldType, zty[ci]? = some ty ∧ ∀ k, k < q.2.2 → parseFieldDescriptor (q.2.1 k).2.2.1 = some (ty k)) ∧ (∀ a, a < q.2.2 → ∀ b, b < q.2.2 → a ≠ b → (q.2.1 a).2.1 ≠ (q.2.1 b).2.1)
  | 0, _, h => by cases h; exact ⟨i_X1, ⟨_, rfl, tyX1_ok⟩, nmX1⟩
  | 1, _, h => by cases h; exact ⟨i_X2, ⟨_, rfl, tyX2_ok⟩, nmX2⟩
  | 2, _, h => by cases h; exact ⟨i_X3, ⟨_, rfl, tyX3_ok⟩, nmX3⟩
  | 3, _, h => by cases h; exact ⟨i_X4, ⟨_, rfl, tyX4_ok⟩, nmX4⟩
  | 4, _, h => by cases h; exact ⟨i_X5, ⟨_, rfl, tyX5_ok⟩, nmX5⟩
  | 5, _, h => by cases h; exact ⟨i_X6, ⟨_, rfl, tyX6_ok⟩, nmX6⟩
  | 6, _, h => by cases h; exact ⟨i_X7, ⟨_, rfl, tyX7_ok⟩, nmX7⟩
  | 7, _, h => by cases h; exact ⟨i_X8, ⟨_, rfl, tyX8_ok⟩, nmX8⟩
  | k + 8, _, h => by simp [zcl] at h
/-- place k of class ci, as the pool's entry idx of cls names it -/
def zfw (cls : String) (idx ci k : Nat) (ty : FieldType) (fin : Nat) : Prop := ∃ (C : String) (T : u_T) (N : Nat), zcl[ci]? = some (C, T, N) ∧ k < N ∧ Cond.fieldLink cls idx (T k).1 (T k).2.1 (T k).2.2.1 ∈ gtb ∧ parseFieldDescriptor (T k).2.2.1 = some ty ∧ (fin = 0 → (T k).2.2.2 = false) ∧ (fin = 1 → (T k).2.2.2 = true ∧ (T k).1 = cls)
section Cells
variable {M : MD} {d mc ms kc ks pc : Nat} {Q : Option Value → ZS → Prop} {lv : List (Option Value)} {st : List Value} {σ : ZS}
theorem va_one {D : va_G} {cl : List vw_C} {q : Nat × va_E} {H : Heap} (h : va_at D cl q H) : va_P D cl [q] H := by
  intro k x hx
  have hz : k < 1 := (List.getElem?_eq_some_iff.mp hx).1
  rw [show k = 0 by omega] at hx
  cases hx
  exact h
theorem x_get {i idx ci j : Nat} {fs : List Value} {ty : FieldType} {fin : Nat} {v : Value} (hf : zfw M.1.cls idx ci j ty fin) (hg : zg σ i = some (.inr (.inr (ci, fs)))) (hv : fs[j]? = some v) (hd : decode M.2.1 pc = .ok (.getfield idx, 3)) (k : X M d mc ms Q kc ks (pc + 3) lv (v :: st) σ) : X M d mc ms Q kc ks pc lv (.ref i :: st) σ := by
  intro c p l e s m args below meth cd H locs cells slots ls F R L hc hs V
  obtain ⟨C, T, N, hcl, hk, hw, hty, -, -⟩ := hf
  obtain ⟨hin, -, -⟩ := zcl_ok ci _ hcl
  exact va_get (ws := [(za c i, .inr (ci, fs.map (zv c)))]) (v := zv c v) F.1 F.2.1 F.2.2.2.2.2.2.2.1 hin F.2.2.2.2.2.1 F.2.2.2.2.2.2.2.2.1 (va_one (R.2.2.2.2.2 i _ hg).1) 0 rfl hcl j hk (F.2.2.2.2.2.2.2.1 _ hw) (fun _ h => h) (by rw [List.getElem?_map, hv]; rfl) hd (k c p l e s m args below meth cd H locs cells slots ls F R L hc hs V)
theorem x_locs {c : ZX} {locs : List Loc} {q : Loc} (L : ∀ q ∈ locs, c.1.1 ≤ q.base) (h : c.1.1 ≤ q.base) : ∀ x ∈ locs ++ [q], c.1.1 ≤ x.base := by
  intro x hx
  rcases List.mem_append.mp hx with h1 | h1
  · exact L x h1
  · rw [List.mem_singleton.mp h1]; exact h
theorem x_put {i idx ci j : Nat} {fs : List Value} {ty : FieldType} {v : Value} (hf : zfw M.1.cls idx ci j ty 0) (hg : zg σ i = some (.inr (.inr (ci, fs)))) (hl : j < fs.length) (hn : ∀ c : ZX, narrow ty (zv c v) = zv c v ∧ fits ty (zv c v) = true) (hd : decode M.2.1 pc = .ok (.putfield idx, 3)) (k : X M d mc ms Q kc ks (pc + 3) lv st (zs σ i (.inr (.inr (ci, fs.set j v))))) : X M d mc ms Q kc ks pc lv (v :: .ref i :: st) σ := by
  intro c p l e s m args below meth cd H locs cells slots ls F R L hc hs V
  obtain ⟨C, T, N, hcl, hk, hw, hty, hfin, -⟩ := hf
  have hfin := hfin rfl
  obtain ⟨hin, ⟨ty0, -, hty0⟩, hnm⟩ := zcl_ok ci _ hcl
  have hts := F.2.2.2.2.2.2.2.1
  have hK := F.2.2.2.2.2.2.2.2.1
  have hap := va_apart (own := M.1.cls) hts hin ty0 hty0 hnm hK hcl
  obtain ⟨r, h1, cell, q1, q2, q3, q4⟩ := (R.2.2.2.2.2 i _ hg).1
  have hr : r = (C, T, N) := Option.some.inj (h1.symm.trans hcl)
  subst hr
  obtain ⟨hS, hfc, kC, hkC, hkind⟩ := hK.1 ci _ hcl
  obtain ⟨cf, kf, fi, f, hi, hsl⟩ := hS j hk
  have hlay := hts _ (hin _ (u_in_lay hk))
  unfold u_lay at hlay
  rw [if_neg (by rw [hfin]; decide)] at hlay
  have hst := (u_facts hfc hkC (u_lays hts hin hk) hi).1
  have h6 := u_store hfc hkC hkind hlay hi hty (hn c).1 (hn c).2
  refine W.putK F.1 F.2.1 (f := f) (v := zv c v) (rest := st.map (zv c)) ⟨F.2.2.2.2.2.1, hts _ hw, ⟨_, _, _, hi⟩, hst⟩ (by rw [q2]; exact h6) q1 q3 (by rw [hsl]; exact k2_hasslot (q4 j hk)) rfl rfl hd fun H' e1 e2 e3 => ?_
  rw [hsl] at e1 ⊢
  refine k c p l e s m args below meth cd H' _ cells slots ls F (R.set hg ?_ trivial e2 e3) (x_locs L (za_ge hg)) hc hs V
  show va_at c.2.1 zcl (za c i, .inr (ci, (fs.set j v).map (zv c))) H'
  rw [List.map_set]
  exact ⟨_, hcl, t_OB.to (V := updV (vp_V (fs.map (zv c))) j (zv c v)) ⟨_, e1, q2, q3, t_set q4 hap hk (zv c v)⟩ (fun j' _ => vp_updV_set (by rw [List.length_map]; exact hl) (zv c v) j')⟩
theorem x_putF {i idx ci j : Nat} {fs : List Value} {ty : FieldType} {v : Value} (hf : zfw M.1.cls idx ci j ty 1) (hi0 : M.1.name = "<init>") (hg : zg σ i = some (.inr (.inr (ci, fs)))) (hl : j < fs.length) (hn : ∀ c : ZX, narrow ty (zv c v) = zv c v ∧ fits ty (zv c v) = true) (hd : decode M.2.1 pc = .ok (.putfield idx, 3)) (k : X M d mc ms Q kc ks (pc + 3) lv st (zs σ i (.inr (.inr (ci, fs.set j v))))) : X M d mc ms Q kc ks pc lv (v :: .ref i :: st) σ := by
  intro c p l e s m args below meth cd H locs cells slots ls F R L hc hs V
  obtain ⟨C, T, N, hcl, hk, hw, hty, -, hfd⟩ := hf
  obtain ⟨hfin, hdecl⟩ := hfd rfl
  obtain ⟨hin, ⟨ty0, -, hty0⟩, hnm⟩ := zcl_ok ci _ hcl
  have hts := F.2.2.2.2.2.2.2.1
  have hK := F.2.2.2.2.2.2.2.2.1
  have hown := F.2.2.2.2.2.1
  have hap := va_apart (own := M.1.cls) hts hin ty0 hty0 hnm hK hcl
  obtain ⟨r, h1, cell, q1, q2, q3, q4⟩ := (R.2.2.2.2.2 i _ hg).1
  have hr : r = (C, T, N) := Option.some.inj (h1.symm.trans hcl)
  subst hr
  obtain ⟨hS, hfc, kC, hkC, hkind⟩ := hK.1 ci _ hcl
  obtain ⟨cf, kf, fi, f, hi, hsl⟩ := hS j hk
  have hlay := hts _ (hin _ (u_in_lay hk))
  unfold u_lay at hlay
  rw [if_pos hfin] at hlay
  have hst := (u_facts hfc hkC (u_lays hts hin hk) hi).1
  have hcf : m.cls = cf := by
    obtain ⟨_, _, c', _, _, _, -, -, hf', -, -, -, hown2, -⟩ := Cond.laysFinal_spec hlay
    have e1 : c' = cf := by have := hi.symm.trans hf'; simp at this; exact this.1.symm
    rw [hdecl] at hown2
    rw [← e1]; exact Option.some.inj (hown.symm.trans hown2)
  have h6 := u_fits hfc hkC hkind (Or.inr hlay) hi hty (hn c).1 (hn c).2
  refine W.putFinK F.1 F.2.1 (v := zv c v) (rest := st.map (zv c)) hown (hts _ hw) hi hst hcf (F.2.2.2.2.2.2.1.trans hi0) (by rw [q2]; exact h6) q1 q3 (by rw [hsl]; exact k2_hasslot (q4 j hk)) rfl rfl hd fun H' e1 e2 e3 => ?_
  rw [hsl] at e1 ⊢
  refine k c p l e s m args below meth cd H' _ cells slots ls F (R.set hg ?_ trivial e2 e3) (x_locs L (za_ge hg)) hc hs V
  show va_at c.2.1 zcl (za c i, .inr (ci, (fs.set j v).map (zv c))) H'
  rw [List.map_set]
  exact ⟨_, hcl, t_OB.to (V := updV (vp_V (fs.map (zv c))) j (zv c v)) ⟨_, e1, q2, q3, t_set q4 hap hk (zv c v)⟩ (fun j' _ => vp_updV_set (by rw [List.length_map]; exact hl) (zv c v) j')⟩
theorem z_in {x : Int32} {k n : Nat} (hx : x = nI k) (hk : k < n) (hn : n ≤ 1000000) : vp_in x n ∧ x.toNatClampNeg = k := by
  subst hx
  exact ⟨vp_in_nI hk (by omega), nI_clamp (by omega)⟩
theorem z_getD {l : List Int32} {n : Nat} (h : n < l.length) : l[n]? = some (l.getD n 0) := by
  rw [List.getD_eq_getElem?_getD, List.getElem?_eq_getElem h]; rfl
theorem x_iald {r n : Nat} {x : Int32} {a : List Int32} (hg : zg σ r = some (.inl (0, a))) (hx : x = nI n) (hn : n < a.length) (hd : decode M.2.1 pc = .ok (.iaload, 1)) (k : X M d mc ms Q kc ks (pc + 1) lv (.int (a.getD n 0) :: st) σ) : X M d mc ms Q kc ks pc lv (.int x :: .ref r :: st) σ := by
  intro c p l e s m args below meth cd H locs cells slots ls F R L hc hs V
  obtain ⟨hP, hl⟩ := R.2.2.2.2.2 r _ hg
  obtain ⟨h1, h2⟩ := z_in hx hn hl
  refine va_iald (ws := [(za c r, .inl (c.2.2.1 0, a.length, .inl (fun k => a.getD k 0)))]) F.1 F.2.1 F.2.2.2.2.2.2.2.2.1 (va_one hP) 0 0 rfl rfl h1 hd ?_
  rw [h2]
  exact k c p l e s m args below meth cd H locs cells slots ls F R L hc hs V
theorem x_zald {r n : Nat} {x : Int32} {a : List Int32} (hg : zg σ r = some (.inl (1, a))) (hx : x = nI n) (hn : n < a.length) (hd : decode M.2.1 pc = .ok (.baload, 1)) (k : X M d mc ms Q kc ks (pc + 1) lv (.int (a.getD n 0) :: st) σ) : X M d mc ms Q kc ks pc lv (.int x :: .ref r :: st) σ := by
  intro c p l e s m args below meth cd H locs cells slots ls F R L hc hs V
  obtain ⟨hP, hl⟩ := R.2.2.2.2.2 r _ hg
  obtain ⟨h1, h2⟩ := z_in hx hn hl
  refine va_zald (ws := [(za c r, .inl (c.2.2.1 1, a.length, .inl (fun k => a.getD k 0)))]) F.1 F.2.1 F.2.2.2.2.2.2.2.2.1 (va_one hP) 0 1 rfl rfl h1 hd ?_
  rw [h2]
  exact k c p l e s m args below meth cd H locs cells slots ls F R L hc hs V
theorem z_upd {a : List Int32} {n : Nat} {x : Int32} (hn : n < a.length) : (fun j => (a.set n x).getD j 0) = upd (fun j => a.getD j 0) n x := by
  funext j
  simp only [upd, List.getD_eq_getElem?_getD]
  by_cases h : j = n
  · subst h
    rw [if_pos rfl, List.getElem?_set_self hn]; rfl
  · rw [if_neg h, List.getElem?_set_ne (fun q => h q.symm)]
theorem x_iast {r n : Nat} {x v : Int32} {a : List Int32} (hg : zg σ r = some (.inl (0, a))) (hx : x = nI n) (hn : n < a.length) (hd : decode M.2.1 pc = .ok (.iastore, 1)) (k : X M d mc ms Q kc ks (pc + 1) lv st (zs σ r (.inl (0, a.set n v)))) : X M d mc ms Q kc ks pc lv (.int v :: .int x :: .ref r :: st) σ := by
  intro c p l e s m args below meth cd H locs cells slots ls F R L hc hs V
  obtain ⟨hP, hl⟩ := R.2.2.2.2.2 r _ hg
  obtain ⟨h1, h2⟩ := z_in hx hn hl
  have hK := F.2.2.2.2.2.2.2.2.1
  have hP : H[za c r]? = some (vp_cell (c.2.2.1 0) (a.length, .inl (fun k => a.getD k 0))) := hP
  refine W.iast (x := v) (j := x) (rest := st.map (zv c)) F.1 F.2.1 hP ((hK.2 0 _ rfl).1 a.length (fun j => .int (a.getD j 0))) (fun q => by cases q) (by show ¬ (x < 0 ∨ (arrV _ _ _).slots.size ≤ _); rw [arrV_size]; exact h1) rfl rfl hd fun H1 e1 z oq => ?_
  refine k c p l e s m args below meth cd H1 _ cells slots ls F (R.set hg ?_ (by show (a.set n v).length ≤ _; rw [List.length_set]; exact hl) z oq) (x_locs L (za_ge hg)) hc hs V
  show H1[za c r]? = some (vp_cell (c.2.2.1 0) ((a.set n v).length, .inl (fun j => (a.set n v).getD j 0)))
  rw [e1, z_upd hn, List.length_set, vp_cell_i, vp_cell_i, arrV_store, h2]
  congr 2
  funext q
  by_cases hq : q = n
  · subst hq
    simp [updV, upd]
  · simp [updV, upd, hq]
theorem x_zast {r n : Nat} {x v : Int32} {a : List Int32} (hg : zg σ r = some (.inl (1, a))) (hx : x = nI n) (hn : n < a.length) (hv : vp_nar .boolean v = v) (hd : decode M.2.1 pc = .ok (.bastore, 1)) (k : X M d mc ms Q kc ks (pc + 1) lv st (zs σ r (.inl (1, a.set n v)))) : X M d mc ms Q kc ks pc lv (.int v :: .int x :: .ref r :: st) σ := by
  intro c p l e s m args below meth cd H locs cells slots ls F R L hc hs V
  obtain ⟨hP, hl⟩ := R.2.2.2.2.2 r _ hg
  obtain ⟨h1, h2⟩ := z_in hx hn hl
  have hK := F.2.2.2.2.2.2.2.2.1
  have hP : H[za c r]? = some (vp_cell (c.2.2.1 1) (a.length, .inl (fun k => a.getD k 0))) := hP
  refine W.zast (x := v) (j := x) (rest := st.map (zv c)) F.1 F.2.1 hP ((hK.2 1 _ rfl).1 a.length (fun j => .int (a.getD j 0))) (fun q => by cases q) (by show ¬ (x < 0 ∨ (arrV _ _ _).slots.size ≤ _); rw [arrV_size]; exact h1) rfl rfl hd fun H1 e1 z oq => ?_
  refine k c p l e s m args below meth cd H1 _ cells slots ls F (R.set hg ?_ (by show (a.set n v).length ≤ _; rw [List.length_set]; exact hl) z oq) (x_locs L (za_ge hg)) hc hs V
  show H1[za c r]? = some (vp_cell (c.2.2.1 1) ((a.set n v).length, .inl (fun j => (a.set n v).getD j 0)))
  have hv2 : narrow .boolean (.int v) = .int v := by
    have h3 := hv
    unfold vp_nar at h3
    cases hx9 : narrow .boolean (.int v) with
    | int w => rw [hx9] at h3; exact congrArg Value.int h3
    | _ => simp [narrow] at hx9
  rw [e1, z_upd hn, List.length_set, vp_cell_i, vp_cell_i, arrV_store, h2]
  congr 2
  funext q
  by_cases hq : q = n
  · subst hq
    simp [updV, upd, hv2]
  · simp [updV, upd, hq]
theorem x_alen {r t : Nat} {a : List Int32} (ht : t < 2) (hg : zg σ r = some (.inl (t, a))) (hd : decode M.2.1 pc = .ok (.arraylength, 1)) (k : X M d mc ms Q kc ks (pc + 1) lv (.int (nI a.length) :: st) σ) : X M d mc ms Q kc ks pc lv (.ref r :: st) σ := by
  intro c p l e s m args below meth cd H locs cells slots ls F R L hc hs V
  obtain ⟨hP, hl⟩ := R.2.2.2.2.2 r _ hg
  have htt : ∃ ty, (ztys c)[t]? = some (c.2.2.1 t, ty) := by
    rcases (show t = 0 ∨ t = 1 by omega) with rfl | rfl
    · exact ⟨_, rfl⟩
    · exact ⟨_, rfl⟩
  obtain ⟨ty, htt⟩ := htt
  exact va_alen (ws := [(za c r, .inl (c.2.2.1 t, a.length, .inl (fun k => a.getD k 0)))]) F.1 F.2.1 F.2.2.2.2.2.2.2.2.1 (va_one hP) 0 t rfl htt rfl hd (k c p l e s m args below meth cd H locs cells slots ls F R L hc hs V)
theorem x_aald {r n t w : Nat} {x : Int32} {a : List (Option Nat)} (ht : t = 2 ∨ t = 3) (hg : zg σ r = some (.inr (.inl (t, a)))) (hx : x = nI n) (hn : a[n]? = some (some w)) (hd : decode M.2.1 pc = .ok (.aaload, 1)) (k : X M d mc ms Q kc ks (pc + 1) lv (.ref w :: st) σ) : X M d mc ms Q kc ks pc lv (.int x :: .ref r :: st) σ := by
  intro c p l e s m args below meth cd H locs cells slots ls F R L hc hs V
  obtain ⟨hP, hl⟩ := R.2.2.2.2.2 r _ hg
  obtain ⟨h1, h2⟩ := z_in hx (List.getElem?_eq_some_iff.mp hn).1 hl
  have htt : ∃ C, (ztys c)[t]? = some (c.2.2.1 t, .object C) := by
    rcases ht with rfl | rfl
    · exact ⟨_, rfl⟩
    · exact ⟨_, rfl⟩
  obtain ⟨C, htt⟩ := htt
  refine va_aldq (ws := [(za c r, .inl (c.2.2.1 t, a.length, .inr (.inr (.inr (.inr (fun k => (a.getD k none).map (za c)))))))]) F.1 F.2.1 F.2.2.2.2.2.2.2.2.1 (va_one hP) 0 t rfl htt h1 hd ?_
  rw [h2, List.getD_eq_getElem?_getD, hn]
  exact k c p l e s m args below meth cd H locs cells slots ls F R L hc hs V
end Cells
