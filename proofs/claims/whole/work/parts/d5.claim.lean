/-! the law from its entry -/
theorem y_newG {c : ZX} {p : Program} {l : Launch} {e : Env} {s : State} {m : MethodId} {below : List Frame} {meth : Method} {cd : Code} {b L : Nat} {xs : Nat → Int32} {kc ks pc idx ci kr r : Nat} {lv : List (Option Value)} {st fs : List Value} {σ : ZS} (G : LG c p s m meth cd b L xs) (hm : zmk RL idx ci fs) (hz : zq kr σ) (hr : zn kr σ = r) (h1 : kc + 1 ≤ 600000) (h2 : ks + fs.length ≤ 7302250) (hd : decode code pc = .ok (.new idx, 3)) (k : ∀ σ' : ZS, zg σ' r = some (.inr (.inr (ci, fs))) → Fr (fun i => i = r) σ σ' → σ' = zp kr σ (.inr (.inr (ci, fs))) → LX c p l e s m below meth cd b (kc + 1) (ks + fs.length) (pc + 3) lv (.ref r :: st) σ') : LX c p l e s m below meth cd b kc ks pc lv st σ := by
  subst hr
  exact y_new G hm hz h1 h2 hd (k _ (zp_new hz) (zp_fr hz) rfl)
set_option maxHeartbeats 4000000 in
theorem law_all {c : ZX} {p : Program} {l : Launch} {e : Env} {s : State} {m : MethodId} {below : List Frame} {meth : Method} {cd : Code} {b L : Nat} {xs : Nat → Int32} (G : LG c p s m meth cd b L xs) (hL : L ≤ 3072) : LX c p l e s m below meth cd b 0 0 0 [some (.ref 3026), none, none, none] [] ([], [], []) := by
  refine y_newG (kr := 0) (ci := 6) (r := 0) G k_L_7 (Or.inl ⟨rfl, by decide, rfl, rfl⟩) rfl (by omega) (Nat.le_of_ble_eq_true rfl) dL_law_0 (fun σ1 g1 _ e1 => ?_)
  have L1 : Ln σ1 1 0 0 := by rw [e1]; exact ⟨rfl, rfl, rfl⟩
  refine y_dup G dL_law_3 rfl ?_
  refine y_callI (r := 0) G m_X7_init l_L_9 ((c_init L1 g1).up (show 3 ≤ 400 by omega)) rfl rfl (Nat.le_of_ble_eq_true rfl) ⟨Nat.le_of_ble_eq_true rfl, Nat.le_of_ble_eq_true rfl⟩ dL_law_4 (fun r1 σ2 q1 => ?_)
  obtain ⟨rfl, q0, p1, p6, p11, ma, se, rd, cs, hLn⟩ := q1
  refine y_stk (st' := [.ref 0]) rfl ?_
  refine y_astore_n (i := 1) (x := 0) G dL_law_7 rfl ?_
  refine y_lv (lv' := [some (.ref 3026), some (.ref 0), none, none]) rfl ?_
  have hz : zq 1 σ2 := Or.inr (Or.inl ⟨rfl, hLn.1, by rw [hLn.2.1]; decide, hLn.2.2⟩)
  have hn : zn 1 σ2 = 1000 := by
    show 1000 + σ2.2.1.length = 1000
    rw [hLn.2.1]
  refine y_newG (kr := 1) (ci := 7) (r := 1000) G k_L_10 hz hn (Nat.le_of_ble_eq_true rfl) (Nat.le_of_ble_eq_true rfl) dL_law_8 (fun σ3 g3 F3 e3 => ?_)
  have L3 : Ln σ3 40 1 0 := by rw [e3]; exact zp_len1 hLn
  refine y_dup G dL_law_11 rfl ?_
  refine y_callI (r := 1000) G m_X8_init l_L_12 ((r_init L3 g3).up (show 2 ≤ 400 by omega)) rfl rfl (Nat.le_of_ble_eq_true rfl) ⟨Nat.le_of_ble_eq_true rfl, Nat.le_of_ble_eq_true rfl⟩ dL_law_12 (fun r2 σ4 q2 => ?_)
  obtain ⟨rfl, T, hRM, hL4, hT⟩ := q2
  refine y_stk (st' := [.ref 1000]) rfl ?_
  refine y_astore_n (i := 2) (x := 1000) G dL_law_15 rfl ?_
  refine y_lv (lv' := [some (.ref 3026), some (.ref 0), some (.ref 1000), none]) rfl ?_
  refine y_iconst (v := nI 0) G dL_law_16 (by decide) ?_
  refine y_istore_n (i := 3) (x := nI 0) G dL_law_17 rfl ?_
  refine y_lv (lv' := [some (.ref 3026), some (.ref 0), some (.ref 1000), some (.int (nI (6 * 0)))]) rfl ?_
  exact y_wide (kc' := 58 + 3 * 0) (ks' := 3061 + 364 * 0) (Nat.le_of_ble_eq_true rfl) (Nat.le_of_ble_eq_true rfl) (law_loop G hL 513 0 σ4 rfl (Nat.zero_le _) (INV_made q0 p1 p6 p11 ma se rd cs F3 hRM hL4 hT))
theorem whole_start {p : Program} {e : Env} {s : State} {m : MethodId} {below : List Frame} {meth : Method} {c : Code} (l : Launch) (hflags : l.flags = flags0) {b L : Nat} {xs : Nat → Int32} (hL : L ≤ 3072) (C0 : lw_At p s m meth c b L xs) : W p l e room_1 s m #[Value.ref b] below meth c s.heap [] 0 0 (lw_Z below #[Value.ref b] s) (entryFrame m ([Value.ref b] : List Value).toArray 4) := by
  obtain ⟨hx, hb, hr, hml, hown, hts, hX, hbl, hlocks, hgv⟩ := C0
  obtain ⟨cx, hK, e1, e2, e3⟩ := zK_start hts hgv
  have G : LG cx p s m meth c b L xs := ⟨hx, hb, hr, hml, hown, fun w h => hts w (List.mem_filter.mp h).1, hX, hbl, hlocks, hK, e1, e2, e3⟩
  have hl := lv_entry ([.ref b]) (n := 4) (Nat.le_of_ble_eq_true rfl)
  rw [lg_entry_eq]
  generalize (lg_sl ([.ref b]) ++ List.replicate (4 - (lg_sl ([.ref b])).length) Slot.unset).toArray = ls at hl ⊢
  have hl : lv_has ls 4 [(0, .ref b)] := hl
  have hV : zLv cx ls 4 [some (.ref 3026), none, none, none] := by
    show lv_has ls 4 [(0, zv cx (.ref 3026))]
    rw [G.b3]
    exact hl
  have hR : zR cx ([], [], []) s.heap := by
    refine ⟨by rw [e1]; rfl, ⟨by decide, by decide, by decide⟩, Or.inl rfl, Or.inl rfl, fun q hq => by rw [e2], fun i e h => ?_⟩
    have h9 := zg_lt h
    simp at h9
  exact law_all G hL s.heap [] 0 0 ls hR (fun q h => by cases h) (Nat.le_refl _) (Nat.le_refl _) hV
set_option maxHeartbeats 4000000 in
theorem lw_walk (l : Launch) (hflags : l.flags = flags0) (b : Addr) (xs : List Int32) : MetFree l x (headSpec (Jvm.Cond.code x code maxLocals ret :: tables_1) room_1) (lw_P b xs) (fun _ _ _ _ _ => True) lw_Q := by
  refine MetFree.of_bodyS (code := code) (maxLocals := maxLocals) (ret := ret) (by decide) ?_ ?_
  · intro args s m h hn
    obtain ⟨meth, c, h1, h2, h3, h4, h5, h6, -, -⟩ := Cond.code_spec hn (atoms_spec (ws := Jvm.Cond.code x code maxLocals ret :: tables_1) h _ List.mem_cons_self)
    exact ⟨meth, c, h1, h2, h3, h4, h5, h6⟩
  · intro p e s m args below meth c s₁ B hml0 hP _
    obtain ⟨rfl, hx, hbd, hgv⟩ := hP
    obtain ⟨scr, harrAt, hlist, hof, hsmall⟩ := hx
    obtain ⟨hcb, hkn, -, -⟩ := State.arrayAt?_spec harrAt
    have hown : s.vm.findClass R_law = some m.cls := findClass_of_methodNamed B.named
    have hts0 : ∀ c ∈ (Jvm.Cond.code x code maxLocals ret :: tables_1), c.before #[Value.ref b] s = true := atoms_spec (ws := Jvm.Cond.code x code maxLocals ret :: tables_1) B.pre
    have hts : ∀ w ∈ lw_tbl, w.before #[Value.ref b] s = true := k2_hts_sels lw_privs (fun w hw => hts0 w (List.mem_cons_of_mem _ hw)) lw_privs_ok
    have hml : c.maxLocals = 4 := B.maxLocals_eq (hts0 _ List.mem_cons_self)
    have X₀ : Stand p l e room_1 s m #[Value.ref b] below meth c s₁ [] 0 0 := Stand.of_body B
    have hh0 : s₁.heap = s.heap := by rw [B.state]; rfl
    have hsz : scr.slots.size = xs.length := by rw [← Array.length_toList, hlist, List.length_map]
    have hval : ∀ j : Nat, j < xs.length → scr.slots[j]? = some (.int (xs.getD j 0)) := fun j hj => by
      rw [← Array.getElem?_toList, hlist]
      simp [hj]
    have hbl : b < s.heap.size := (Array.getElem?_eq_some_iff.mp hcb).1
    have hX : va_X b xs.length (fun j => xs.getD j 0) s s.heap := ⟨scr, hcb, hof, hkn, hsz, hval⟩
    have K : W p l e room_1 s m #[Value.ref b] below meth c s₁.heap [] 0 0 (lw_Z below #[Value.ref b] s) (entryFrame m ([Value.ref b] : List Value).toArray 4) := by
      rw [hh0]
      exact whole_start l hflags hbd ⟨B.exec, B.bytes, B.returns, hml, hown, hts, hX, hbl, B.notSynchronized, hgv⟩
    obtain ⟨t, a1, o, b1, b2, b3⟩ := K s₁ rfl X₀
    exact ⟨t, o, a1, b1, b2, b3⟩
theorem lw_pre_spec {args : Array Value} {s : State} (h : (Jvm.Cond.and given_1 narrow_1).before args s = true) (hr : rest_1_c.before args s = true) : ∃ (b : Addr) (xs : List Int32), lw_P b xs args s := by
  have hs := flat_of_before _ h
  have hq := flat_of_before _ hr
  have hc : (Cond.count 1).before args s = true := hs _ (by decide +kernel)
  have harr : (Cond.arrayOf (.arg 0) .int).before args s = true := hs _ (by decide +kernel)
  have hle : (Cond.le (.length (.arg 0)) (.int 3072)).before args s = true := hs _ (by decide +kernel)
  have hlen : (Cond.isInt (.length (.arg 0))).before args s = true := hq _ (by decide +kernel)
  have hall : (Cond.all (.arg 0) (.isInt (.elem (.arg 0) (.index 0)))).before args s = true := hq _ (by decide +kernel)
  obtain ⟨b, xs, hb, hx⟩ := State.ints_of_pre rfl harr hlen hall
  have hsm : xs.length < 2 ^ 31 := hx.choose_spec.2.2.2
  have hev : (Term.length (.arg 0)).eval args s none [] s = some (.int xs.length.toInt32) := hx.length_eval hb
  have hv := Cond.le_ints hev (show (Term.int 3072).eval args s none [] s = some (.int 3072) from rfl)
  have hd : xs.length.toInt32 ≤ 3072 := by
    simpa [Cond.before, Cond.holds, hv] using hle
  have hN : xs.length ≤ 3072 := (Int32.ofNat_le_ofNat hsm (by decide)).mp (show Int32.ofNat xs.length ≤ Int32.ofNat 3072 from hd)
  exact ⟨b, xs, Cond.one_arg hc (show args[0]? = some (.ref b) from hb), hx, hN, h⟩
theorem lw_comes (l : Launch) (hflags : l.flags = flags0) : Comes l x (Jvm.Cond.code x code maxLocals ret :: tables_1) room_1 (fun tb e args s => Calls_1 tb e args s ∧ rest_1 tb e args s ∧ Pre_1 tb e args s)
    (fun _ _ args s o t => lw_Q args s o t) := by
  intro p e ha hc hk s m args below hf hfit hheap happ hpre
  obtain ⟨b, xs, hP⟩ := lw_pre_spec hpre.2.2 hpre.2.1
  obtain ⟨k, o, h1, h2, h3, hQ⟩ := lw_walk l hflags b xs p e ha hc hk s m args below hf ((Spec.applies_iff_loose hf).mp happ).1 hP trivial
  exact ⟨k, o, h1, h2, h3, hQ⟩
theorem lw_frame {s t : State} {o : Outcome} {args : Array Value} (h : Framed s o t [] 600000 7302250) :
    Framed s o t (fieldLocs frame_1_writes args s ++ arrayLocs frame_1_arrays args s ++ staticLocs frame_1_statics s) 600000 7302250 := h
theorem lw_limb (L : Cond) (hL : ∀ (args : Array Value) (s t : State), L.after args s (.returned (some (.int 1))) t = true) :
    ArmFor flags0 classFile x code maxLocals ret World_1 tables_1 room_1 Calls_1 rest_1 Pre_1
      (fun tb e a s o t => postC L tb e a s o t ∧ Framed s o t (fieldLocs frame_1_writes a s ++ arrayLocs frame_1_arrays a s ++ staticLocs frame_1_statics s) 600000 7302250) := by
  intro l hflags _ _ p e ha hc hk s m args below hf hfit hheap happ hpre
  obtain ⟨k, o, h1, h2, h3, rfl, hF⟩ := lw_comes l hflags p e ha hc hk s m args below hf hfit hheap happ hpre
  exact ⟨k, _, h1, h2, h3, hL args s _, lw_frame hF⟩
theorem i_vc : Claimed_1_1 ∧ Claimed_1_2 := ⟨lw_limb limb_1_1 (fun args s t => by simp [limb_1_1, Cond.after, Cond.holds, Cond.value]), lw_limb limb_1_2 (fun args s t => Cond.after_iff.mpr (by
  first | (rw [show limb_1_2 = Cond.eq .result (.int 1) from rfl, Cond.eq_ints (x := 1) (y := 1) rfl rfl]; simp; done) | (simp [limb_1_2, Cond.value, Term.eval]; done)))⟩
