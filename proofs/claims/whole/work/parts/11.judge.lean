def zp (k : Nat) (σ : ZS) (e : ZC) : ZS := if k = 0 then (σ.1 ++ [e], σ.2.1, σ.2.2) else if k = 1 then (σ.1, σ.2.1 ++ [e], σ.2.2) else (σ.1, σ.2.1, σ.2.2 ++ [e])
def zn (k : Nat) (σ : ZS) : Nat := if k = 0 then σ.1.length else if k = 1 then 1000 + σ.2.1.length else 2000 + σ.2.2.length
def zq (k : Nat) (σ : ZS) : Prop := (k = 0 ∧ σ.1.length < 40 ∧ σ.2.1.length = 0 ∧ σ.2.2.length = 0) ∨ (k = 1 ∧ σ.1.length = 40 ∧ σ.2.1.length < 18 ∧ σ.2.2.length = 0) ∨ (k = 2 ∧ σ.1.length = 40 ∧ σ.2.1.length = 18 ∧ σ.2.2.length < 1000)
theorem zn_at {c : ZX} {σ : ZS} {H : Heap} {k : Nat} (hR : zR c σ H) (hk : zq k σ) : za c (zn k σ) = H.size := by
  obtain ⟨s1, -⟩ := hR
  rcases hk with ⟨rfl, a, b, d⟩ | ⟨rfl, a, b, d⟩ | ⟨rfl, a, b, d⟩
  · rw [show zn 0 σ = σ.1.length from rfl]; unfold za; rw [if_pos (by omega)]; omega
  · rw [show zn 1 σ = 1000 + σ.2.1.length from rfl]; unfold za; rw [if_neg (by omega), if_pos (by omega)]; omega
  · rw [show zn 2 σ = 2000 + σ.2.2.length from rfl]; unfold za; rw [if_neg (by omega), if_neg (by omega), if_pos (by omega)]; omega
theorem zg_zp {σ : ZS} {k j : Nat} {e f : ZC} (hk : zq k σ) (hj : zg (zp k σ e) j = some f) : (j = zn k σ ∧ f = e) ∨ zg σ j = some f := by
  have key : ∀ (l : List ZC) (i : Nat), (l ++ [e])[i]? = some f → (i = l.length ∧ f = e) ∨ l[i]? = some f := by
    intro l i h
    by_cases hl : i < l.length
    · rw [List.getElem?_append_left hl] at h
      exact Or.inr h
    · rw [List.getElem?_append_right (by omega)] at h
      have hz : i - l.length < 1 := (List.getElem?_eq_some_iff.mp h).1
      have h0 : i - l.length = 0 := by omega
      rw [h0] at h
      exact Or.inl ⟨by omega, (Option.some.inj h).symm⟩
  rcases hk with ⟨rfl, a, b, d⟩ | ⟨rfl, a, b, d⟩ | ⟨rfl, a, b, d⟩
  · rw [show zn 0 σ = σ.1.length from rfl]
    rw [show zp 0 σ e = (σ.1 ++ [e], σ.2.1, σ.2.2) from rfl] at hj
    unfold zg at hj ⊢
    by_cases h1 : j < 1000
    · rw [if_pos h1] at hj ⊢
      exact key _ _ hj
    · rw [if_neg h1] at hj ⊢
      exact Or.inr hj
  · rw [show zn 1 σ = 1000 + σ.2.1.length from rfl]
    rw [show zp 1 σ e = (σ.1, σ.2.1 ++ [e], σ.2.2) from rfl] at hj
    unfold zg at hj ⊢
    by_cases h1 : j < 1000
    · rw [if_pos h1] at hj ⊢
      exact Or.inr hj
    · rw [if_neg h1] at hj ⊢
      by_cases h2 : j < 2000
      · rw [if_pos h2] at hj ⊢
        rcases key _ _ hj with ⟨h3, h4⟩ | h3
        · exact Or.inl ⟨by omega, h4⟩
        · exact Or.inr h3
      · rw [if_neg h2] at hj ⊢
        exact Or.inr hj
  · rw [show zn 2 σ = 2000 + σ.2.2.length from rfl]
    rw [show zp 2 σ e = (σ.1, σ.2.1, σ.2.2 ++ [e]) from rfl] at hj
    unfold zg at hj ⊢
    by_cases h1 : j < 1000
    · rw [if_pos h1] at hj ⊢
      exact Or.inr hj
    · rw [if_neg h1] at hj ⊢
      by_cases h2 : j < 2000
      · rw [if_pos h2] at hj ⊢
        exact Or.inr hj
      · rw [if_neg h2] at hj ⊢
        by_cases h3 : j < 3000
        · rw [if_pos h3] at hj ⊢
          rcases key _ _ hj with ⟨h3, h4⟩ | h3
          · exact Or.inl ⟨by omega, h4⟩
          · exact Or.inr h3
        · rw [if_neg h3] at hj
          cases hj
theorem zR.push {c : ZX} {σ : ZS} {H H1 : Heap} {k : Nat} {e : ZC} (hR : zR c σ H) (hk : zq k σ) (he : va_at c.2.1 zcl (za c (zn k σ), ze c e) H1) (hl : zl e) (hz : H1.size = H.size + 1) (ho : ∀ q : Nat, q < H.size → H1[q]? = H[q]?) : zR c (zp k σ e) H1 := by
  obtain ⟨s1, ⟨l1, l2, l3⟩, l4, l5, hb, hc⟩ := hR
  have hlen : ((zp k σ e).1.length = σ.1.length + 1 ∧ (zp k σ e).2.1.length = σ.2.1.length ∧ (zp k σ e).2.2.length = σ.2.2.length ∧ σ.1.length < 40 ∧ σ.2.1.length = 0 ∧ σ.2.2.length = 0) ∨ ((zp k σ e).1.length = σ.1.length ∧ (zp k σ e).2.1.length = σ.2.1.length + 1 ∧ (zp k σ e).2.2.length = σ.2.2.length ∧ σ.1.length = 40 ∧ σ.2.1.length < 18 ∧ σ.2.2.length = 0) ∨ ((zp k σ e).1.length = σ.1.length ∧ (zp k σ e).2.1.length = σ.2.1.length ∧ (zp k σ e).2.2.length = σ.2.2.length + 1 ∧ σ.1.length = 40 ∧ σ.2.1.length = 18 ∧ σ.2.2.length < 1000) := by
    rcases hk with ⟨rfl, a, b, d⟩ | ⟨rfl, a, b, d⟩ | ⟨rfl, a, b, d⟩
    · exact Or.inl ⟨by simp [zp], by simp [zp], by simp [zp], a, b, d⟩
    · exact Or.inr (Or.inl ⟨by simp [zp], by simp [zp], by simp [zp], a, b, d⟩)
    · exact Or.inr (Or.inr ⟨by simp [zp], by simp [zp], by simp [zp], a, b, d⟩)
  refine ⟨by omega, by omega, by omega, by omega, fun q hq => ?_, fun j f hj => ?_⟩
  · rw [ho q (by omega)]; exact hb q hq
  · rcases zg_zp hk hj with ⟨rfl, rfl⟩ | hj
    · exact ⟨he, hl⟩
    · obtain ⟨h1, h2⟩ := hc j f hj
      exact ⟨h1.kept (ho _ h1.lt), h2⟩
def znest : List Cond := [.methodLinkNest RX7 9 yX2_init RX7, .methodLinkNest RX7 31 yX5_init RX7, .methodLinkNest RX7 38 yX3_init RX7, .methodLinkNest RX7 57 yX6_init RX7, .methodLinkNest RX0 11 yX7_isWithin RX7, .methodLinkNest RX4 33 yX7_bounded RX7, .methodLinkNest RX1 57 yX7_bounded RX7]
def zlen : List Nat := [8, 5, 4, 2, 3, 3, 4, 4, 6, 5, 4, 6]
def ztx : List String := ["forgives", "lends", "joys", "or", "and", "not", "debt", "back", "number", "seats", "seat", "wanted"]
def zbyt : List (List Int32) := [[102, 111, 114, 103, 105, 118, 101, 115], [108, 101, 110, 100, 115], [106, 111, 121, 115], [111, 114], [97, 110, 100], [110, 111, 116], [100, 101, 98, 116], [98, 97, 99, 107], [110, 117, 109, 98, 101, 114], [115, 101, 97, 116, 115], [115, 101, 97, 116], [119, 97, 110, 116, 101, 100]]
def zabv : List Int32 := [-1, 0, 0, 1, 2, 0]
/-- what lay there before: the texts' constants, the row ABOVE, the JDK's statics -/
def zE (c : ZX) (U : State) : Prop := vk_S 12 zlen zbyt c.2.2.2 (fun k => c.2.2.2 (13 + k)) (fun q => c.1.1 ≤ q) U c.1.2 ∧ (∀ k : Nat, k < 12 → vk_R RX3 (128 + 2 * k) (ztx.getD k "") (c.2.2.2 k) U) ∧ va_Z RX0 "ABOVE" "[I" (.ref (c.2.2.2 12)) (fun q => c.1.1 ≤ q) U c.1.2 ∧ va_T .int (c.2.2.2 12) 6 (fun j => .int (zabv.getD j 0)) (fun q => c.1.1 ≤ q) U c.1.2 ∧ va_Z RJ0 "COMPACT_STRINGS" "Z" (.int 1) (fun q => c.1.1 ≤ q) U c.1.2 ∧ ∃ v : Value, (v = .null ∨ v = .ref (c.2.2.2 25)) ∧ va_Z RJ3 "SIOOBE_FORMATTER" "Ljava/util/function/BiFunction;" v (fun q => c.1.1 ≤ q) U c.1.2
def zK (c : ZX) (U : State) : Prop := va_K c.2.1 zcl (ztys c) U ∧ (∀ w ∈ znest, va_Nw w U) ∧ (va_AO RX4 U ∧ va_AO RX6 U) ∧ c.1.2.size = c.1.1 ∧ zE c U
theorem znest_warm {s U : State} (hW : s.WarmedH U.vm) (h : ∀ w ∈ znest, va_Nw w s) : ∀ w ∈ znest, va_Nw w U := by
  intro w hw
  have h1 := h w hw
  simp only [znest, List.mem_cons, List.not_mem_nil, or_false] at hw
  rcases hw with rfl | rfl | rfl | rfl | rfl | rfl | rfl <;> exact va_Nw.warmM hW h1
theorem zK.warm {c : ZX} {s U : State} (hW : s.WarmedH U.vm) (h : zK c s) : zK c U := by
  obtain ⟨h1, h2, ⟨h3, h4⟩, h5, e1, e2, e3, e4, e5, v, e6, e7⟩ := h
  have ha := hW.alike
  exact ⟨h1.moved ha, znest_warm hW h2, ⟨h3.moved ha, h4.moved ha⟩, h5, e1.moved ha, fun k hk => (e2 k hk).warm hW, e3.moved ha, e4.moved ha, e5.moved ha, v, e6, e7.moved ha⟩
/-- a method: name, code, locals, what it returns -/
abbrev MD : Type := MethodName × ByteArray × Nat × Option FieldType
def zw (M : MD) : List Cond := .code M.1 M.2.1 M.2.2.1 M.2.2.2 :: gtb
def zrm (d mc ms : Nat) : Room := { frames := d, cells := mc, slots := ms, locals := 40 * d }
def zF (M : MD) (c : ZX) (p : Program) (s : State) (m : MethodId) (args : Array Value) (meth : Method) (cd : Code) : Prop :=
  p.tables.exec = Jvm.exec ∧ cd.code = M.2.1 ∧ meth.sig.returnType = M.2.2.2 ∧ cd.maxLocals = M.2.2.1 ∧ meth.locks = false ∧ s.vm.findClass M.1.cls = some m.cls ∧ meth.name = M.1.name ∧ (∀ w ∈ gtb, w.before args s = true) ∧ zK c s
def zQ (c : ZX) (Q : Option Value → ZS → Prop) : Array Value → State → Outcome → State → Prop := fun _ _ o t => ∃ (r : Option Value) (σ : ZS), o = .returned (r.map (zv c)) ∧ zR c σ t.heap ∧ Q r σ
def lvA : Nat → List (Option Value) → List (Nat × Value)
  | _, [] => []
  | i, none :: r => lvA (i + 1) r
  | i, some v :: r => (i, v) :: lvA (i + 1) r
theorem lvA_mem : ∀ (l : List (Option Value)) (i : Nat) (q : Nat × Value), q ∈ lvA i l ↔ ∃ j : Nat, q.1 = i + j ∧ l[j]? = some (some q.2)
  | [], i, q => by simp [lvA]
  | none :: r, i, q => by
    rw [lvA, lvA_mem r (i + 1) q]
    constructor
    · rintro ⟨j, h1, h2⟩
      exact ⟨j + 1, by omega, by simpa using h2⟩
    · rintro ⟨j, h1, h2⟩
      cases j with
      | zero => simp at h2
      | succ j => exact ⟨j, by omega, by simpa using h2⟩
  | some v :: r, i, q => by
    rw [lvA, List.mem_cons, lvA_mem r (i + 1) q]
    constructor
    · rintro (h | ⟨j, h1, h2⟩)
      · subst h
        exact ⟨0, by simp, by simp⟩
      · exact ⟨j + 1, by omega, by simpa using h2⟩
    · rintro ⟨j, h1, h2⟩
      cases j with
      | zero =>
        left
        simp at h2
        exact Prod.ext (by simpa using h1) h2.symm
      | succ j => exact Or.inr ⟨j, by omega, by simpa using h2⟩
def zLv (c : ZX) (ls : Array Slot) (nL : Nat) (lv : List (Option Value)) : Prop := lv_has ls nL (lvA 0 (lv.map (Option.map (zv c))))
theorem zLv.at {c : ZX} {ls : Array Slot} {nL : Nat} {lv : List (Option Value)} (h : zLv c ls nL lv) {i : Nat} {v : Value} (hi : lv[i]? = some (some v)) : ls[i]? = some (.val (zv c v)) := by
  refine h.2.2 (i, zv c v) ((lvA_mem _ 0 _).mpr ⟨i, by simp, ?_⟩)
  rw [List.getElem?_map, hi]; rfl
def X (M : MD) (d mc ms : Nat) (Q : Option Value → ZS → Prop) (kc ks : Nat) (pc : Nat) (lv : List (Option Value)) (st : List Value) (σ : ZS) : Prop :=
  ∀ (c : ZX) (p : Program) (l : Launch) (e : Env) (s : State) (m : MethodId) (args : Array Value) (below : List Frame) (meth : Method) (cd : Code) (H : Heap) (locs : List Loc) (cells slots : Nat) (ls : Array Slot),
    zF M c p s m args meth cd → zR c σ H → (∀ q ∈ locs, c.1.1 ≤ q.base) → cells ≤ kc → slots ≤ ks → zLv c ls M.2.2.1 lv →
    W p l e (zrm d mc ms) s m args below meth cd H locs cells slots (MQ below (zQ c Q) args s mc ms (fun q => c.1.1 ≤ q)) (F0 m pc ls (st.map (zv c)))
/-- a method's contract: from every such store, with depth kd left -/
def Cn (kd : Nat) (M : MD) (mc ms : Nat) (as : List Value) (σ : ZS) (Q : Option Value → ZS → Prop) : Prop :=
  ∀ (d : Nat), kd ≤ d → ∀ (l : Launch) (c : ZX), Met l M.1 (zw M) (zrm d mc ms) (va_Pc (as.map (zv c)) (fun U => zR c σ U.heap ∧ zK c U)) (zQ c Q) mc ms (fun q => c.1.1 ≤ q)
