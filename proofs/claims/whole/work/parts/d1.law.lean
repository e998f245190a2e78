/-! THE CLAIM OUT OF ONE WALK OF THE LAW'S BODY. Your part is whole_start (and what it stands on); all else here is the same for every law, but numbers. -/
def R_law : String := "SeatedByDebtsLaw"
def lw_P (b : Addr) (xs : List Int32) (args : Array Value) (s : State) : Prop := args = #[.ref b] ∧ s.IntsAt b xs ∧ xs.length ≤ 3072 ∧ (Jvm.Cond.and given_1 narrow_1).before args s = true
def lw_Q (_ : Array Value) (s : State) (o : Outcome) (t : State) : Prop := o = .returned (some (.int 1)) ∧ Framed s o t [] 600000 7302250
def lw_Z (below : List Frame) (a : Array Value) (s : State) : State → Prop := fun t => ∃ o, t.status = .running ∧ Ended t below o ∧ lw_Q a s o t
/-- the law's own end, with 1 on the stack, nothing written that was there before, its room as the claim has it -/
theorem lw_ret {p : Program} {l : Launch} {e : Env} {s : State} {m : MethodId} {below : List Frame} {meth : Method} {c : Code} {b : Nat} (hx : p.tables.exec = Jvm.exec) (hb : c.code = code) (hr : meth.sig.returnType = ret) (hlocks : meth.locks = false) {pc : Nat} {H : Heap} {ls : Array Slot} (hdg : decode code pc = .ok (.ireturn, 1)) : W p l e room_1 s m #[Value.ref b] below meth c H [] 600000 7302250 (lw_Z below #[Value.ref b] s) (F0 m pc ls [.int 1]) := by
  intro T hT X
  obtain ⟨fs, hret, hrun, hended, hW, hframe⟩ := X.leave (v := some (.int 1)) (hlocks := hlocks) (fun h => by rw [hr] at h; cases h)
  have hmeth' : T.vm.method? m = some meth := X.method'
  refine ⟨T.setFrames fs, ?_, .returned (some (.int 1)), hrun, hended, rfl, ⟨_, rfl⟩, hW, hframe⟩
  jvm_step X.here [X.here.top, hx, hb, hdg, hmeth', hr, ret, narrow_b1]
  (try refine ⟨rfl, ?_⟩); (try refine ⟨rfl, ?_⟩)
  first | (intro acts; rw [hret _ acts rfl rfl rfl]) | rw [hret _ _ rfl rfl rfl]
  exact Steps.refl _
/-- what holds at the law's entry: the machine, the code, the tables' words (any of lw_tbl by 'hts w (by decide +kernel)'), the script of L ints xs at the cell b, what the Statement gives of the start (any of its parts by flat_of_before) -/
def lw_At (p : Program) (s : State) (m : MethodId) (meth : Method) (c : Code) (b L : Nat) (xs : Nat → Int32) : Prop :=
  p.tables.exec = Jvm.exec ∧ c.code = code ∧ meth.sig.returnType = ret ∧ c.maxLocals = 4 ∧ s.vm.findClass R_law = some m.cls ∧ (∀ w ∈ lw_tbl, w.before #[Value.ref b] s = true) ∧ va_X b L xs s s.heap ∧ b < s.heap.size ∧ meth.locks = false ∧ (Jvm.Cond.and given_1 narrow_1).before #[Value.ref b] s = true
/-! the law's own frame over my stores -/
def LX (c : ZX) (p : Program) (l : Launch) (e : Env) (s : State) (m : MethodId) (below : List Frame) (meth : Method) (cd : Code) (b : Nat) (kc ks pc : Nat) (lv : List (Option Value)) (st : List Value) (σ : ZS) : Prop :=
  ∀ (H : Heap) (locs : List Loc) (cells slots : Nat) (ls : Array Slot), zR c σ H → (∀ q ∈ locs, c.1.1 ≤ q.base) → cells ≤ kc → slots ≤ ks → zLv c ls 4 lv →
    W p l e room_1 s m #[Value.ref b] below meth cd H locs cells slots (lw_Z below #[Value.ref b] s) (F0 m pc ls (st.map (zv c)))
/-- what holds all through the law -/
def LG (c : ZX) (p : Program) (s : State) (m : MethodId) (meth : Method) (cd : Code) (b L : Nat) (xs : Nat → Int32) : Prop :=
  p.tables.exec = Jvm.exec ∧ cd.code = code ∧ meth.sig.returnType = ret ∧ cd.maxLocals = 4 ∧ s.vm.findClass RL = some m.cls ∧ (∀ w ∈ gtb, w.before #[Value.ref b] s = true) ∧ va_X b L xs s s.heap ∧ b < s.heap.size ∧ meth.locks = false ∧ zK c s ∧ c.1.1 = s.heap.size ∧ c.1.2 = s.heap ∧ c.2.2.2 26 = b
section Law
variable {c : ZX} {p : Program} {l : Launch} {e : Env} {s : State} {m : MethodId} {below : List Frame} {meth : Method} {cd : Code} {b L kc ks pc : Nat} {xs : Nat → Int32} {lv : List (Option Value)} {st : List Value} {σ : ZS}
theorem y_iconst {n : Int} {v : Int32} (G : LG c p s m meth cd b L xs) (hd : decode code pc = .ok (.iconst n, 1)) (hv : Int32.ofInt n = v) (k : LX c p l e s m below meth cd b kc ks (pc + 1) lv (.int v :: st) σ) : LX c p l e s m below meth cd b kc ks pc lv st σ := by
  intro H locs cells slots ls R Lo hc hs V
  exact lv_iconst G.1 G.2.1 hd hv (k H locs cells slots ls R Lo hc hs V)
theorem y_bipush {n : Int} {v : Int32} (G : LG c p s m meth cd b L xs) (hd : decode code pc = .ok (.bipush n, 2)) (hv : (Int8.ofInt n).toInt32 = v) (k : LX c p l e s m below meth cd b kc ks (pc + 2) lv (.int v :: st) σ) : LX c p l e s m below meth cd b kc ks pc lv st σ := by
  intro H locs cells slots ls R Lo hc hs V
  exact lv_bipush G.1 G.2.1 hd hv (k H locs cells slots ls R Lo hc hs V)
theorem y_iload_n {i : Fin 4} {x : Int32} (G : LG c p s m meth cd b L xs) (hd : decode code pc = .ok (.iload_n i, 1)) (hl : lv[(i : Nat)]? = some (some (.int x))) (k : LX c p l e s m below meth cd b kc ks (pc + 1) lv (.int x :: st) σ) : LX c p l e s m below meth cd b kc ks pc lv st σ := by
  intro H locs cells slots ls R Lo hc hs V
  exact lv_iload_n G.1 G.2.1 hd rfl (V.at hl) (k H locs cells slots ls R Lo hc hs V)
theorem y_aload_n {i : Fin 4} {x : Nat} (G : LG c p s m meth cd b L xs) (hd : decode code pc = .ok (.aload_n i, 1)) (hl : lv[(i : Nat)]? = some (some (.ref x))) (k : LX c p l e s m below meth cd b kc ks (pc + 1) lv (.ref x :: st) σ) : LX c p l e s m below meth cd b kc ks pc lv st σ := by
  intro H locs cells slots ls R Lo hc hs V
  exact lv_aload_n G.1 G.2.1 hd rfl (V.at hl) (k H locs cells slots ls R Lo hc hs V)
theorem y_istore_n {i : Fin 4} {x : Int32} (G : LG c p s m meth cd b L xs) (hd : decode code pc = .ok (.istore_n i, 1)) (hok : zok1 lv (i : Nat) = true) (k : LX c p l e s m below meth cd b kc ks (pc + 1) (lv.set (i : Nat) (some (.int x))) st σ) : LX c p l e s m below meth cd b kc ks pc lv (.int x :: st) σ := by
  intro H locs cells slots ls R Lo hc hs V
  exact lv_istore_n G.1 G.2.1 hd rfl V i.isLt rfl (fun ls' V' => k H locs cells slots ls' R Lo hc hs (zLv.of1 V' hok))
theorem y_astore_n {i : Fin 4} {x : Nat} (G : LG c p s m meth cd b L xs) (hd : decode code pc = .ok (.astore_n i, 1)) (hok : zok1 lv (i : Nat) = true) (k : LX c p l e s m below meth cd b kc ks (pc + 1) (lv.set (i : Nat) (some (.ref x))) st σ) : LX c p l e s m below meth cd b kc ks pc lv (.ref x :: st) σ := by
  intro H locs cells slots ls R Lo hc hs V
  exact lv_astore_n G.1 G.2.1 hd rfl V i.isLt rfl (fun ls' V' => k H locs cells slots ls' R Lo hc hs (zLv.of1 V' hok))
theorem y_iadd {x y : Int32} (G : LG c p s m meth cd b L xs) (hd : decode code pc = .ok (.iadd, 1)) (k : LX c p l e s m below meth cd b kc ks (pc + 1) lv (.int (x + y) :: st) σ) : LX c p l e s m below meth cd b kc ks pc lv (.int y :: .int x :: st) σ := by
  intro H locs cells slots ls R Lo hc hs V
  exact lv_iadd G.1 G.2.1 hd (k H locs cells slots ls R Lo hc hs V)
theorem y_isub {x y : Int32} (G : LG c p s m meth cd b L xs) (hd : decode code pc = .ok (.isub, 1)) (k : LX c p l e s m below meth cd b kc ks (pc + 1) lv (.int (x - y) :: st) σ) : LX c p l e s m below meth cd b kc ks pc lv (.int y :: .int x :: st) σ := by
  intro H locs cells slots ls R Lo hc hs V
  exact lv_isub G.1 G.2.1 hd (k H locs cells slots ls R Lo hc hs V)
theorem y_iand {x y : Int32} (G : LG c p s m meth cd b L xs) (hd : decode code pc = .ok (.iand, 1)) (k : LX c p l e s m below meth cd b kc ks (pc + 1) lv (.int (x &&& y) :: st) σ) : LX c p l e s m below meth cd b kc ks pc lv (.int y :: .int x :: st) σ := by
  intro H locs cells slots ls R Lo hc hs V
  exact lv_iand G.1 G.2.1 hd (k H locs cells slots ls R Lo hc hs V)
theorem y_dup {v : Value} (G : LG c p s m meth cd b L xs) (hd : decode code pc = .ok (.dup, 1)) (hv : v.category = 1) (k : LX c p l e s m below meth cd b kc ks (pc + 1) lv (v :: v :: st) σ) : LX c p l e s m below meth cd b kc ks pc lv (v :: st) σ := by
  intro H locs cells slots ls R Lo hc hs V
  exact lv_dup G.1 G.2.1 hd (by rw [zv_cat]; exact hv) (k H locs cells slots ls R Lo hc hs V)
theorem y_goto {off : Int} {tgt : Nat} (G : LG c p s m meth cd b L xs) (hd : decode code pc = .ok (.goto off, 3)) (ht : (pc : Int) + off = (tgt : Int)) (k : LX c p l e s m below meth cd b kc ks tgt lv st σ) : LX c p l e s m below meth cd b kc ks pc lv st σ := by
  intro H locs cells slots ls R Lo hc hs V
  exact lv_goto G.1 G.2.1 hd ht (k H locs cells slots ls R Lo hc hs V)
theorem y_iinc {i : Nat} {n : Int} {x v : Int32} (G : LG c p s m meth cd b L xs) (hd : decode code pc = .ok (.iinc i n, 3)) (hl : lv[i]? = some (some (.int x))) (hv : x + Int32.ofInt n = v) (hn : i < 4) (hok : zok1 lv i = true) (k : LX c p l e s m below meth cd b kc ks (pc + 3) (lv.set i (some (.int v))) st σ) : LX c p l e s m below meth cd b kc ks pc lv st σ := by
  intro H locs cells slots ls R Lo hc hs V
  have hm : (i, Value.int x) ∈ lvA 0 (lv.map (Option.map (zv c))) := (lvA_mem _ 0 _).mpr ⟨i, by simp, by rw [List.getElem?_map, hl]; rfl⟩
  obtain ⟨j, hj⟩ := List.getElem?_of_mem hm
  exact lv_iinc G.1 G.2.1 hd V hj hv hn rfl (fun ls' V' => k H locs cells slots ls' R Lo hc hs (zLv.of1 V' hok))
theorem y_icmp_gt {x y : Int32} {off : Int} {tgt : Nat} {q r : Int} (G : LG c p s m meth cd b L xs) (hx : x.toInt = q) (hy : y.toInt = r) (hd : decode code pc = .ok (.if_icmp .gt off, 3)) (ht : (pc : Int) + off = (tgt : Int)) (kt : r < q → LX c p l e s m below meth cd b kc ks tgt lv st σ) (kf : q ≤ r → LX c p l e s m below meth cd b kc ks (pc + 3) lv st σ) : LX c p l e s m below meth cd b kc ks pc lv (.int y :: .int x :: st) σ := by
  intro H locs cells slots ls R Lo hc hs V
  refine lv_icmp_gt G.1 G.2.1 hd ht (fun h => kt ?_ H locs cells slots ls R Lo hc hs V) (fun h => kf ?_ H locs cells slots ls R Lo hc hs V)
  · rw [Int32.lt_iff_toInt_lt, hx, hy] at h; exact h
  · rw [Int32.lt_iff_toInt_lt, hx, hy] at h; omega
theorem y_icmp_same {x : Int32} {off : Int} {tgt : Nat} (G : LG c p s m meth cd b L xs) (hd : decode code pc = .ok (.if_icmp .eq off, 3)) (ht : (pc : Int) + off = (tgt : Int)) (k : LX c p l e s m below meth cd b kc ks tgt lv st σ) : LX c p l e s m below meth cd b kc ks pc lv (.int x :: .int x :: st) σ := by
  intro H locs cells slots ls R Lo hc hs V
  exact lv_icmp_eq G.1 G.2.1 hd ht (fun _ => k H locs cells slots ls R Lo hc hs V) (fun h => absurd rfl h)
theorem lg_self (x : Int64) : lg_cmp x x = 0 := by
  unfold lg_cmp
  rw [if_neg (Int64.lt_irrefl), if_pos rfl]
theorem y_lcmp_same {x : Int64} {off : Int} {tgt : Nat} (G : LG c p s m meth cd b L xs) (hd1 : decode code pc = .ok (.lcmp, 1)) (hd : decode code (pc + 1) = .ok (.ifCond .eq off, 3)) (ht : ((pc + 1 : Nat) : Int) + off = (tgt : Int)) (k : LX c p l e s m below meth cd b kc ks tgt lv st σ) : LX c p l e s m below meth cd b kc ks pc lv (.long x :: .long x :: st) σ := by
  intro H locs cells slots ls R Lo hc hs V
  refine W.lcmp G.1 G.2.1 hd1 ?_
  rw [lg_self]
  exact lv_if_eq G.1 G.2.1 hd ht (fun _ => k H locs cells slots ls R Lo hc hs V) (fun h => absurd rfl h)
theorem y_tableOut {dflt lo hi : Int} {offs : Array Int} {len : Nat} {x : Int32} {tgt : Nat} (G : LG c p s m meth cd b L xs) (hd : decode code pc = .ok (.tableswitch dflt lo hi offs, len)) (h : x.toInt < lo ∨ hi < x.toInt) (ht : (pc : Int) + dflt = (tgt : Int)) (k : LX c p l e s m below meth cd b kc ks tgt lv st σ) : LX c p l e s m below meth cd b kc ks pc lv (.int x :: st) σ := by
  intro H locs cells slots ls R Lo hc hs V
  exact lv_tableOut G.1 G.2.1 hd h ht (k H locs cells slots ls R Lo hc hs V)
theorem y_tableIn {dflt lo hi : Int} {offs : Array Int} {len : Nat} {x : Int32} {off : Int} {tgt : Nat} (G : LG c p s m meth cd b L xs) (hd : decode code pc = .ok (.tableswitch dflt lo hi offs, len)) (h1 : ¬ x.toInt < lo) (h2 : ¬ hi < x.toInt) (ho : offs[(x.toInt - lo).toNat]? = some off) (ht : (pc : Int) + off = (tgt : Int)) (k : LX c p l e s m below meth cd b kc ks tgt lv st σ) : LX c p l e s m below meth cd b kc ks pc lv (.int x :: st) σ := by
  intro H locs cells slots ls R Lo hc hs V
  exact lv_tableIn G.1 G.2.1 hd h1 h2 ho ht (k H locs cells slots ls R Lo hc hs V)
theorem LG.vs {σ : ZS} {H : Heap} {locs : List Loc} (G : LG c p s m meth cd b L xs) (R : zR c σ H) (Lo : ∀ q ∈ locs, c.1.1 ≤ q.base) : va_S (fun q : Nat => s.heap.size ≤ q) s.heap H locs := by
  obtain ⟨hx, hb, hr, hml, hown, hts, hX, hbl, hlocks, hK, e1, e2, e3⟩ := G
  obtain ⟨s1, -, -, -, hq, -⟩ := R
  refine ⟨by omega, fun q h1 _ => ?_, fun q hq2 => by have := Lo q hq2; omega⟩
  rw [hq q (by omega), e2]
theorem LG.b3 (G : LG c p s m meth cd b L xs) : zv c (.ref 3026) = .ref b := by
  obtain ⟨hx, hb, hr, hml, hown, hts, hX, hbl, hlocks, hK, e1, e2, e3⟩ := G
  show Value.ref (za c 3026) = _
  rw [za, if_neg (by omega), if_neg (by omega), if_neg (by omega)]
  rw [← e3]
theorem y_slen (G : LG c p s m meth cd b L xs) (hd : decode code pc = .ok (.arraylength, 1)) (k : LX c p l e s m below meth cd b kc ks (pc + 1) lv (.int (nI L) :: st) σ) : LX c p l e s m below meth cd b kc ks pc lv (.ref 3026 :: st) σ := by
  intro H locs cells slots ls R Lo hc hs V
  have h9 := G.b3
  have hS := G.vs R Lo
  obtain ⟨hx, hb, hr, hml, hown, hts, hX, hbl, hlocks, hK, e1, e2, e3⟩ := G
  show W p l e room_1 s m #[Value.ref b] below meth cd H locs cells slots _ (F0 m pc ls (zv c (.ref 3026) :: st.map (zv c)))
  rw [h9]
  exact va_slen hx hb hX hbl (Nat.not_le.mpr hbl) hS hd (k H locs cells slots ls R Lo hc hs V)
theorem y_sld {n : Nat} (G : LG c p s m meth cd b L xs) (hn : n < L) (hL : L ≤ 3072) (hd : decode code pc = .ok (.iaload, 1)) (k : LX c p l e s m below meth cd b kc ks (pc + 1) lv (.int (xs n) :: st) σ) : LX c p l e s m below meth cd b kc ks pc lv (.int (nI n) :: .ref 3026 :: st) σ := by
  intro H locs cells slots ls R Lo hc hs V
  have h9 := G.b3
  have hS := G.vs R Lo
  have e4 : (nI n).toNatClampNeg = n := nI_clamp (by omega)
  have h0 : ¬ nI n < 0 := nI_pos (by omega)
  obtain ⟨hx, hb, hr, hml, hown, hts, hX, hbl, hlocks, hK, e1, e2, e3⟩ := G
  show W p l e room_1 s m #[Value.ref b] below meth cd H locs cells slots _ (F0 m pc ls (.int (nI n) :: zv c (.ref 3026) :: st.map (zv c)))
  rw [h9]
  refine va_sld hx hb hX hbl (Nat.not_le.mpr hbl) hS (i := nI n) (fun q => ?_) hd ?_
  · rw [e4] at q
    rcases q with q | q
    · exact h0 q
    · omega
  · rw [e4]
    exact (k H locs cells slots ls R Lo hc hs V)
/-- one argument: script[i + j] -/
theorem y_arg {n j : Nat} (G : LG c p s m meth cd b L xs) {j' : Int} (hj : Int32.ofInt j' = nI j) (h1 : decode code pc = .ok (.aload_n 0, 1)) (h2 : decode code (pc + 1) = .ok (.iload_n 3, 1)) (h3 : decode code (pc + 2) = .ok (.iconst j', 1)) (h4 : decode code (pc + 3) = .ok (.iadd, 1)) (h5 : decode code (pc + 4) = .ok (.iaload, 1)) (l0 : lv[0]? = some (some (.ref 3026))) (l3 : lv[3]? = some (some (.int (nI n)))) (hn : n + j < L) (hL : L ≤ 3072) (k : LX c p l e s m below meth cd b kc ks (pc + 5) lv (.int (xs (n + j)) :: st) σ) : LX c p l e s m below meth cd b kc ks pc lv st σ := by
  refine y_aload_n (i := 0) G h1 l0 ?_
  refine y_iload_n (i := 3) G h2 l3 ?_
  refine y_iconst G h3 hj ?_
  refine y_iadd G h4 ?_
  rw [nI_add]
  exact y_sld G hn hL h5 k
theorem y_wide {kc' ks' : Nat} (h1 : kc ≤ kc') (h2 : ks ≤ ks') (k : LX c p l e s m below meth cd b kc' ks' pc lv st σ) : LX c p l e s m below meth cd b kc ks pc lv st σ := fun H locs cells slots ls R Lo hc hs V => k H locs cells slots ls R Lo (Nat.le_trans hc h1) (Nat.le_trans hs h2) V
theorem y_lv {lv' : List (Option Value)} (h : lv = lv') (k : LX c p l e s m below meth cd b kc ks pc lv' st σ) : LX c p l e s m below meth cd b kc ks pc lv st σ := h ▸ k
theorem y_ret (G : LG c p s m meth cd b L xs) (hk : kc ≤ 600000 ∧ ks ≤ 7302250) (hd : decode code pc = .ok (.ireturn, 1)) : LX c p l e s m below meth cd b kc ks pc lv [.int 1] σ := by
  intro H locs cells slots ls R Lo hc hs V
  obtain ⟨hx, hb, hr, hml, hown, hts, hX, hbl, hlocks, hK, e1, e2, e3⟩ := G
  refine va_forget (fun q hq => by have := Lo q hq; omega) ?_
  refine W.widen (k := 600000) (n := 7302250) (by omega) (by omega) ?_
  exact lw_ret hx hb hr hlocks hd
theorem y_new {idx ci kr : Nat} {fs : List Value} (G : LG c p s m meth cd b L xs) (hm : zmk RL idx ci fs) (hz : zq kr σ) (h1 : kc + 1 ≤ 600000) (h2 : ks + fs.length ≤ 7302250) (hd : decode code pc = .ok (.new idx, 3)) (k : LX c p l e s m below meth cd b (kc + 1) (ks + fs.length) (pc + 3) lv (.ref (zn kr σ) :: st) (zp kr σ (.inr (.inr (ci, fs))))) : LX c p l e s m below meth cd b kc ks pc lv st σ := by
  intro H locs cells slots ls R Lo hc hs V
  obtain ⟨C, T, N, ty, hcl, hty, rfl, hfs, hall, w1, w2, w3⟩ := hm
  obtain ⟨hin, ⟨ty', hty', hty0⟩, hnm⟩ := zcl_ok ci _ hcl
  obtain rfl : ty = ty' := Option.some.inj (hty.symm.trans hty')
  obtain ⟨hx, hb, hr, hml, hown, hts, hX, hbl, hlocks, hK, e1, e2, e3⟩ := G
  have hKn := hK.1.1 ci _ hcl
  have hat := zn_at R hz
  refine W.newcK (g := F0 m pc ls (st.map (zv c))) hx hb hown (hts _ w1) (hts _ w2) (hts _ w3) rfl hd (by show _ ≤ 600000; omega) (by show _ ≤ 7302250; omega) hKn.2.1 hat.symm fun H1 kC hkC f1 z1 o1 => ?_
  refine k H1 locs _ _ ls (R.push hz ?_ trivial (by rw [z1, hat]) (fun q hq => o1 q (by rw [hat]; exact hq))) Lo (by omega) (by omega) V
  show va_at c.2.1 zcl (za c (zn kr σ), .inr (ci, fs.map (zv c))) H1
  rw [zv_all c fs hall]
  exact ⟨_, hcl, (u_born ty hts hin hKn hkC f1 hty0).to hfs⟩
theorem ycb {M2 : MD} {n mc2 ms2 idx : Nat} {s : State} {args : Array Value} (hm : zm M2 n) (hl : Cond.methodLink RL idx M2.1 ∈ gtb) (hts : ∀ w ∈ gtb, w.before args s = true) : CallB room_1 s args RL idx M2.1 M2.2.1 M2.2.2.1 M2.2.2.2 (zw M2) (zrm 400 mc2 ms2) mc2 ms2 n := by
  refine ⟨rfl, rfl, Nat.le_of_ble_eq_true rfl, ?_, zw_warm hm hts, List.mem_cons_self, hts _ hm.1, hts _ hm.2.1, hm.2.2.1, fun sig h => ?_, hts _ hl⟩
  · have := hm.2.2.2.2
    show 8 + (M2.2.2.1 + 11) + 40 * 400 ≤ 84000
    omega
  · have h2 := hm.2.2.2.1
    rw [h] at h2
    exact (Option.some.inj h2).symm
theorem yafter {mc2 ms2 : Nat} {rest : List Value} {a : Array Value} {Q2 : Option Value → ZS → Prop} {H : Heap} {locs : List Loc} {cells slots : Nat} {ls : Array Slot} {st0 : List Value}
    (hr : va_Run p l e room_1 s m #[Value.ref b] below meth cd H locs cells slots mc2 ms2 (F0 m pc ls st0) (rest.map (zv c)) (zQ c Q2 a) (fun q => c.1.1 ≤ q)) (Lo : ∀ q ∈ locs, c.1.1 ≤ q.base) (hc : cells ≤ kc) (hs : slots ≤ ks) (V : zLv c ls 4 lv)
    (k : ∀ (r : Option Value) (σ' : ZS), Q2 r σ' → LX c p l e s m below meth cd b (kc + mc2) (ks + ms2) (pc + 3) lv (r.toList ++ rest) σ') : W p l e room_1 s m #[Value.ref b] below meth cd H locs cells slots (lw_Z below #[Value.ref b] s) (F0 m pc ls st0) := by
  intro T hT X0
  obtain ⟨v, st₀, t, T', L', h0, X', hL, e1, e2, ⟨r, σ', hv, hR, hq⟩, stp⟩ := hr T hT X0
  have hv2 : v = r.map (zv c) := by cases hv; rfl
  subst hv2
  obtain ⟨t2, a1, b1⟩ := k r σ' hq T'.heap (locs ++ L') (cells + mc2) (slots + ms2) ls (by rw [e1]; exact hR) (fun q hq2 => by
    rcases List.mem_append.mp hq2 with h | h
    · exact Lo q h
    · exact hL q h) (by omega) (by omega) V T' rfl X'
  refine ⟨t2, stp t2 ?_, b1⟩
  have e3 : (r.toList ++ rest).map (zv c) = (r.map (zv c)).toList ++ rest.map (zv c) := by cases r <;> rfl
  rw [e3] at a1
  exact a1
theorem y_callV {M2 : MD} {n idx mc2 ms2 r ci : Nat} {as rest fs : List Value} {T : u_T} {N : Nat} {Q2 : Option Value → ZS → Prop} (G : LG c p s m meth cd b L xs) (hm : zmV M2 n) (hl : Cond.methodLink RL idx M2.1 ∈ gtb) (hC : Cn 400 M2 mc2 ms2 (.ref r :: as) σ Q2) (hcl : zcl[ci]? = some (M2.1.cls, T, N)) (hg : zg σ r = some (.inr (.inr (ci, fs)))) (hst : st = as.reverse ++ .ref r :: rest) (hn : as.length = n) (hcat : (rest.map fun v => v.category).sum ≤ 8) (hroom : kc + mc2 ≤ 600000 ∧ ks + ms2 ≤ 7302250) (hd : decode code pc = .ok (.invokevirtual idx, 3))
    (k : ∀ (r : Option Value) (σ' : ZS), Q2 r σ' → LX c p l e s m below meth cd b (kc + mc2) (ks + ms2) (pc + 3) lv (r.toList ++ rest) σ') : LX c p l e s m below meth cd b kc ks pc lv st σ := by
  intro H locs cells slots ls R Lo hc hs V
  have hM := hC 400 (Nat.le_refl _) l c
  obtain ⟨hx, hb, hr, hml, hown, hts, hX, hbl, hlocks, hK, e1, e2, e3⟩ := G
  have hp := zpre (as := .ref r :: as) R hK
  refine yafter (va_runV (b := za c r) (C := M2.1.cls) (As := as.map (zv c)) (rest := rest.map (zv c)) (n := n) ⟨hx, hb, hml, hown, hts⟩ hM ⟨ycb hm.1 hl hts, hts _ hm.2.1, hts _ hm.2.2⟩ ⟨hp.1, zrecv hK R hcl hg, hp.2⟩ rfl (by rw [List.length_map]; exact hn) V.1 ?_ (zcat hcat) hd ⟨?_, ?_⟩) Lo hc hs V k
  · rw [hst]; simp [zv]
  · show cells + mc2 ≤ 600000; omega
  · show slots + ms2 ≤ 7302250; omega
theorem y_callI {M2 : MD} {n idx mc2 ms2 r : Nat} {as rest : List Value} {Q2 : Option Value → ZS → Prop} (G : LG c p s m meth cd b L xs) (hm : zmI M2 n) (hl : Cond.methodLink RL idx M2.1 ∈ gtb) (hC : Cn 400 M2 mc2 ms2 (.ref r :: as) σ Q2) (hst : st = as.reverse ++ .ref r :: rest) (hn : as.length = n) (hcat : (rest.map fun v => v.category).sum ≤ 8) (hroom : kc + mc2 ≤ 600000 ∧ ks + ms2 ≤ 7302250) (hd : decode code pc = .ok (.invokespecial idx, 3))
    (k : ∀ (r : Option Value) (σ' : ZS), Q2 r σ' → LX c p l e s m below meth cd b (kc + mc2) (ks + ms2) (pc + 3) lv (r.toList ++ rest) σ') : LX c p l e s m below meth cd b kc ks pc lv st σ := by
  intro H locs cells slots ls R Lo hc hs V
  have hM := hC 400 (Nat.le_refl _) l c
  obtain ⟨hx, hb, hr, hml, hown, hts, hX, hbl, hlocks, hK, e1, e2, e3⟩ := G
  have hp := zpre (as := .ref r :: as) R hK
  have hcb := ycb (mc2 := mc2) (ms2 := ms2) hm.1 hl hts
  rw [hm.2.2.2] at hcb
  refine yafter (va_runI (b := za c r) (As := as.map (zv c)) (rest := rest.map (zv c)) (n := n) ⟨hx, hb, hml, hown, hts⟩ hM ⟨hcb, hm.2.2.1, hts _ hm.2.1⟩ hp rfl (by rw [List.length_map]; exact hn) V.1 ?_ (zcat hcat) hd ⟨?_, ?_⟩) Lo hc hs V k
  · rw [hst]; simp [zv]
  · show cells + mc2 ≤ 600000; omega
  · show slots + ms2 ≤ 7302250; omega
end Law
