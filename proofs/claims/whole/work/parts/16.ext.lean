/-! what lay there before: the row ABOVE, the constants' texts, the JDK's statics -/
section Ext
variable {M : MD} {d mc ms kc ks pc : Nat} {Q : Option Value → ZS → Prop} {lv : List (Option Value)} {st : List Value} {σ : ZS}
theorem zbase {c : ZX} {H : Heap} {s : State} (R : zR c σ H) (hK : zK c s) : ∀ a : Nat, a < c.1.2.size → ¬ (fun q => c.1.1 ≤ q) a → H[a]? = c.1.2[a]? := by
  intro a ha _
  rw [hK.2.2.2.1] at ha
  exact R.2.2.2.2.1 a ha
theorem x_aret {i : Nat} {rt : FieldType} (hk : kc ≤ mc ∧ ks ≤ ms) (hr : M.2.2.2 = some rt) (hrt : (∃ n, rt = .object n) ∨ ∃ t, rt = .array t) (hd : decode M.2.1 pc = .ok (.areturn, 1)) (hq : Q (some (.ref i)) σ) : X M d mc ms Q kc ks pc lv [.ref i] σ := by
  intro c p l e s m args below meth cd H locs cells slots ls F R L hc hs V
  have hlocks : meth.locks = false := F.2.2.2.2.1
  refine W.widen (k := mc) (n := ms) (Nat.le_trans hc hk.1) (Nat.le_trans hs hk.2) ?_
  exact W.aret (v := .ref (za c i)) F.1 F.2.1 (F.2.2.1.trans hr) hrt (Or.inr ⟨_, rfl⟩) (fun t ht hW => ⟨some (.ref i), σ, rfl, by rw [ht]; exact R, hq⟩) L hd
theorem x_gets {c0 : String} {n0 d0 : String} {idx : Nat} {v : Value} (hw : Cond.fieldLink M.1.cls idx c0 n0 d0 ∈ gtb) (hZ : ∀ (c : ZX) (s : State), zK c s → va_Z c0 n0 d0 (zv c v) (fun q => c.1.1 ≤ q) s c.1.2) (hd : decode M.2.1 pc = .ok (.getstatic idx, 3)) (k : X M d mc ms Q kc ks (pc + 3) lv (v :: st) σ) : X M d mc ms Q kc ks pc lv st σ := by
  intro c p l e s m args below meth cd H locs cells slots ls F R L hc hs V
  have hK := F.2.2.2.2.2.2.2.2
  obtain ⟨cf, kf, fi, f, a, cell, h1, h2, h3, h4, h5, h6, h7, h8⟩ := hZ c s hK
  exact W.gets (g := F0 m pc ls (st.map (zv c))) F.1 F.2.1 F.2.2.2.2.2.1 (F.2.2.2.2.2.2.2.1 _ hw) h1 h2 h3 h4 (by rw [zbase R hK a (Array.getElem?_eq_some_iff.mp h5).1 h8]; exact h5) (fun e => by rw [e] at h6; cases h6) h7 rfl hd (k c p l e s m args below meth cd H locs cells slots ls F R L hc hs V)
theorem x_above {idx : Nat} (hw : Cond.fieldLink M.1.cls idx RX0 "ABOVE" "[I" ∈ gtb) (hd : decode M.2.1 pc = .ok (.getstatic idx, 3)) (k : X M d mc ms Q kc ks (pc + 3) lv (.ref 3012 :: st) σ) : X M d mc ms Q kc ks pc lv st σ :=
  x_gets (v := .ref 3012) hw (fun c s hK => hK.2.2.2.2.2.2.1) hd k
theorem x_compact {idx : Nat} (hw : Cond.fieldLink M.1.cls idx RJ0 "COMPACT_STRINGS" "Z" ∈ gtb) (hd : decode M.2.1 pc = .ok (.getstatic idx, 3)) (k : X M d mc ms Q kc ks (pc + 3) lv (.int 1 :: st) σ) : X M d mc ms Q kc ks pc lv st σ :=
  x_gets (v := .int 1) hw (fun c s hK => hK.2.2.2.2.2.2.2.2.1) hd k
theorem x_fmt {idx : Nat} (hw : Cond.fieldLink M.1.cls idx RJ3 "SIOOBE_FORMATTER" "Ljava/util/function/BiFunction;" ∈ gtb) (hd : decode M.2.1 pc = .ok (.getstatic idx, 3)) (k : ∀ v : Value, (v = .null ∨ v = .ref 3025) → X M d mc ms Q kc ks (pc + 3) lv (v :: st) σ) : X M d mc ms Q kc ks pc lv st σ := by
  intro c p l e s m args below meth cd H locs cells slots ls F R L hc hs V
  have hK := F.2.2.2.2.2.2.2.2
  obtain ⟨v, hv, cf, kf, fi, f, a, cell, h1, h2, h3, h4, h5, h6, h7, h8⟩ := hK.2.2.2.2.2.2.2.2.2
  have hz : ∃ v0 : Value, (v0 = .null ∨ v0 = .ref 3025) ∧ zv c v0 = v := by
    rcases hv with rfl | rfl
    · exact ⟨.null, Or.inl rfl, rfl⟩
    · exact ⟨.ref 3025, Or.inr rfl, rfl⟩
  obtain ⟨v0, hv0, rfl⟩ := hz
  exact W.gets (g := F0 m pc ls (st.map (zv c))) F.1 F.2.1 F.2.2.2.2.2.1 (F.2.2.2.2.2.2.2.1 _ hw) h1 h2 h3 h4 (by rw [zbase R hK a (Array.getElem?_eq_some_iff.mp h5).1 h8]; exact h5) (fun e => by rw [e] at h6; cases h6) h7 rfl hd (k v0 hv0 c p l e s m args below meth cd H locs cells slots ls F R L hc hs V)
theorem x_aboveLd {n : Nat} {x : Int32} (hx : x = nI n) (hn : n < 6) (hd : decode M.2.1 pc = .ok (.iaload, 1)) (k : X M d mc ms Q kc ks (pc + 1) lv (.int (zabv.getD n 0) :: st) σ) : X M d mc ms Q kc ks pc lv (.int x :: .ref 3012 :: st) σ := by
  intro c p l e s m args below meth cd H locs cells slots ls F R L hc hs V
  have hK := F.2.2.2.2.2.2.2.2
  obtain ⟨h1, h2⟩ := z_in (n := 6) hx hn (by omega)
  obtain ⟨cell, g1, g2, g3, g4, g5, g6, g7⟩ := hK.2.2.2.2.2.2.2.1.kept (zbase R hK)
  refine W.iald (v := .int (zabv.getD n 0)) (rest := st.map (zv c)) F.1 F.2.1 g1 g2 g3 ?_ ?_ rfl rfl hd (k c p l e s m args below meth cd H locs cells slots ls F R L hc hs V)
  · rintro (q | q)
    · exact h1 (Or.inl q)
    · exact h1 (Or.inr (Nat.le_trans g4 q))
  · rw [h2, g6 n hn]
theorem x_ldcS {w : Nat} (hw : w < 12) (hc0 : M.1.cls = RX3) (hd : decode M.2.1 pc = .ok (.ldc (128 + 2 * w), 2)) (k : X M d mc ms Q kc ks (pc + 2) lv (.ref (3000 + w) :: st) σ) : X M d mc ms Q kc ks pc lv st σ := by
  intro c p l e s m args below meth cd H locs cells slots ls F R L hc hs V
  have hK := F.2.2.2.2.2.2.2.2
  have hR := hK.2.2.2.2.2.1 w hw
  have hown := F.2.2.2.2.2.1
  rw [hc0] at hown
  refine va_ldcS F.1 F.2.1 hown hR hd ?_
  have e9 : (Value.ref (3000 + w) :: st).map (zv c) = .ref (c.2.2.2 w) :: st.map (zv c) := by
    have : za c (3000 + w) = c.2.2.2 w := by
      unfold za
      rw [if_neg (by omega), if_neg (by omega), if_neg (by omega), Nat.add_sub_cancel_left]
    rw [List.map_cons, show zv c (.ref (3000 + w)) = .ref (za c (3000 + w)) from rfl, this]
  have k9 := k c p l e s m args below meth cd H locs cells slots ls F R L hc hs V
  rw [e9] at k9
  exact k9
theorem z_ext (c : ZX) (w : Nat) : za c (3000 + w) = c.2.2.2 w := by
  unfold za
  rw [if_neg (by omega), if_neg (by omega), if_neg (by omega), Nat.add_sub_cancel_left]
theorem x_strVal {w idx : Nat} (hw : w < 12) (hl : Cond.fieldLink M.1.cls idx "java/lang/String" "value" "[B" ∈ gtb) (hd : decode M.2.1 pc = .ok (.getfield idx, 3)) (k : X M d mc ms Q kc ks (pc + 3) lv (.ref (3000 + (13 + w)) :: st) σ) : X M d mc ms Q kc ks pc lv (.ref (3000 + w) :: st) σ := by
  intro c p l e s m args below meth cd H locs cells slots ls F R L hc hs V
  have hK := F.2.2.2.2.2.2.2.2
  obtain ⟨cf, k0, fi, f, cell, h1, h2, h3, h4, h5, h6⟩ := ((hK.2.2.2.2.1).1 w hw).2.2.1.kept (zbase R hK)
  have k9 := k c p l e s m args below meth cd H locs cells slots ls F R L hc hs V
  rw [List.map_cons, show zv c (.ref (3000 + (13 + w))) = .ref (c.2.2.2 (13 + w)) from congrArg Value.ref (z_ext c _)] at k9
  rw [List.map_cons, show zv c (.ref (3000 + w)) = .ref (c.2.2.2 w) from congrArg Value.ref (z_ext c _)]
  exact W.getf (rest := st.map (zv c)) F.1 F.2.1 F.2.2.2.2.2.1 (F.2.2.2.2.2.2.2.1 _ hl) h1 h2 h3 h4 h5 rfl rfl hd k9
theorem x_strCoder {w idx : Nat} (hw : w < 12) (hl : Cond.fieldLink M.1.cls idx "java/lang/String" "coder" "B" ∈ gtb) (hd : decode M.2.1 pc = .ok (.getfield idx, 3)) (k : X M d mc ms Q kc ks (pc + 3) lv (.int 0 :: st) σ) : X M d mc ms Q kc ks pc lv (.ref (3000 + w) :: st) σ := by
  intro c p l e s m args below meth cd H locs cells slots ls F R L hc hs V
  have hK := F.2.2.2.2.2.2.2.2
  obtain ⟨cf, k0, fi, f, cell, h1, h2, h3, h4, h5, h6⟩ := ((hK.2.2.2.2.1).1 w hw).2.1.kept (zbase R hK)
  rw [List.map_cons, show zv c (.ref (3000 + w)) = .ref (c.2.2.2 w) from congrArg Value.ref (z_ext c _)]
  exact W.getf (rest := st.map (zv c)) F.1 F.2.1 F.2.2.2.2.2.1 (F.2.2.2.2.2.2.2.1 _ hl) h1 h2 h3 h4 h5 rfl rfl hd (k c p l e s m args below meth cd H locs cells slots ls F R L hc hs V)
theorem x_bytLen {w : Nat} (hw : w < 12) (hd : decode M.2.1 pc = .ok (.arraylength, 1)) (k : X M d mc ms Q kc ks (pc + 1) lv (.int (nI (zlen.getD w 0)) :: st) σ) : X M d mc ms Q kc ks pc lv (.ref (3000 + (13 + w)) :: st) σ := by
  intro c p l e s m args below meth cd H locs cells slots ls F R L hc hs V
  have hK := F.2.2.2.2.2.2.2.2
  obtain ⟨cell, g1, g2, g3, g4, g5, g6, g7⟩ := ((hK.2.2.2.2.1).1 w hw).2.2.2.kept (zbase R hK)
  rw [List.map_cons, show zv c (.ref (3000 + (13 + w))) = .ref (c.2.2.2 (13 + w)) from congrArg Value.ref (z_ext c _)]
  exact W.alen (n := nI (zlen.getD w 0)) (rest := st.map (zv c)) F.1 F.2.1 g1 g2 g5 rfl rfl hd (k c p l e s m args below meth cd H locs cells slots ls F R L hc hs V)
theorem x_bytLd {w n : Nat} {x : Int32} (hw : w < 12) (hx : x = nI n) (hn : n < zlen.getD w 0) (hd : decode M.2.1 pc = .ok (.baload, 1)) (k : X M d mc ms Q kc ks (pc + 1) lv (.int ((zbyt.getD w []).getD n 0) :: st) σ) : X M d mc ms Q kc ks pc lv (.int x :: .ref (3000 + (13 + w)) :: st) σ := by
  intro c p l e s m args below meth cd H locs cells slots ls F R L hc hs V
  have hK := F.2.2.2.2.2.2.2.2
  have h12 : zlen.getD w 0 ≤ 1000000 := by
    have : ∀ w, w < 12 → zlen.getD w 0 ≤ 1000000 := by decide
    exact this w hw
  obtain ⟨h1, h2⟩ := z_in hx hn h12
  obtain ⟨cell, g1, g2, g3, g4, g5, g6, g7⟩ := ((hK.2.2.2.2.1).1 w hw).2.2.2.kept (zbase R hK)
  rw [List.map_cons, List.map_cons, show zv c (.ref (3000 + (13 + w))) = .ref (c.2.2.2 (13 + w)) from congrArg Value.ref (z_ext c _)]
  refine W.bald (v := .int ((zbyt.getD w []).getD n 0)) (j := x) (rest := st.map (zv c)) F.1 F.2.1 g1 g2 g3 ?_ ?_ rfl rfl hd (k c p l e s m args below meth cd H locs cells slots ls F R L hc hs V)
  · rintro (q | q)
    · exact h1 (Or.inl q)
    · exact h1 (Or.inr (Nat.le_trans g4 q))
  · rw [h2, g6 n hn]
theorem x_callVS {M2 : MD} {n idx kd mc2 ms2 w : Nat} {as rest : List Value} {Q2 : Option Value → ZS → Prop} (hw : w < 12) (hm : zmV M2 n) (hcls : M2.1.cls = "java/lang/String") (hl : Cond.methodLink M.1.cls idx M2.1 ∈ gtb) (hC : Cn kd M2 mc2 ms2 (.ref (3000 + w) :: as) σ Q2) (hkd : kd + 1 ≤ d) (hst : st = as.reverse ++ .ref (3000 + w) :: rest) (hn : as.length = n) (hcat : (rest.map fun v => v.category).sum ≤ 8) (hroom : kc + mc2 ≤ mc ∧ ks + ms2 ≤ ms) (hd : decode M.2.1 pc = .ok (.invokevirtual idx, 3))
    (k : ∀ (r : Option Value) (σ' : ZS), Q2 r σ' → X M d mc ms Q (kc + mc2) (ks + ms2) (pc + 3) lv (r.toList ++ rest) σ') : X M d mc ms Q kc ks pc lv st σ := by
  intro c p l e s m args below meth cd H locs cells slots ls F R L hc hs V
  have hK := F.2.2.2.2.2.2.2.2
  have hM := hC (d - 1) (by omega) l c
  have hp := zpre (as := .ref (3000 + w) :: as) R F.2.2.2.2.2.2.2.2
  have hrec : ∃ cellB : Cell, H[za c (3000 + w)]? = some cellB ∧ cellB.vm.isStatics = false ∧ s.vm.findClass M2.1.cls = some cellB.cls := by
    obtain ⟨cell, h1, h2, h3, -⟩ := ((hK.2.2.2.2.1).1 w hw).1.kept (zbase R hK)
    rw [z_ext, hcls]
    exact ⟨cell, h1, h2, h3⟩
  refine zafter (va_runV (b := za c (3000 + w)) (C := M2.1.cls) (As := as.map (zv c)) (rest := rest.map (zv c)) (n := n) ⟨F.1, F.2.1, F.2.2.2.1, F.2.2.2.2.2.1, F.2.2.2.2.2.2.2.1⟩ hM ⟨zcb hm.1 hl (by omega) F.2.2.2.2.2.2.2.1, F.2.2.2.2.2.2.2.1 _ hm.2.1, F.2.2.2.2.2.2.2.1 _ hm.2.2⟩ ⟨hp.1, hrec, hp.2⟩ rfl (by rw [List.length_map]; exact hn) V.1 ?_ (zcat hcat) hd ⟨?_, ?_⟩) F L hc hs V k
  · rw [hst]; simp [zv]
  · show cells + mc2 ≤ mc; omega
  · show slots + ms2 ≤ ms; omega
end Ext
