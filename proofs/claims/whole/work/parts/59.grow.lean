/-! making cells, with a fresh store -/
theorem zp_fr {kr : Nat} {σ : ZS} {e : ZC} (h : zq kr σ) : Fr (fun i => i = zn kr σ) σ (zp kr σ e) := by
  intro i hi
  have hi : i ≠ zn kr σ := hi
  have key : ∀ (l : List ZC) (j : Nat), j ≠ l.length → (l ++ [e])[j]? = l[j]? := by
    intro l j hj
    by_cases hl : j < l.length
    · rw [List.getElem?_append_left hl]
    · rw [List.getElem?_append_right (by omega), List.getElem?_eq_none (l := l) (by omega), List.getElem?_eq_none (by simp; omega)]
  unfold zg
  rcases h with ⟨rfl, a, b, d⟩ | ⟨rfl, a, b, d⟩ | ⟨rfl, a, b, d⟩
  · rw [show zp 0 σ e = (σ.1 ++ [e], σ.2.1, σ.2.2) from rfl]
    have hi : i ≠ σ.1.length := hi
    simp only [key σ.1 i hi]
  · rw [show zp 1 σ e = (σ.1, σ.2.1 ++ [e], σ.2.2) from rfl]
    have hi : i ≠ 1000 + σ.2.1.length := hi
    by_cases h1 : i < 1000
    · simp only [h1, if_true]
    · simp only [key σ.2.1 (i - 1000) (by omega)]
  · rw [show zp 2 σ e = (σ.1, σ.2.1, σ.2.2 ++ [e]) from rfl]
    have hi : i ≠ 2000 + σ.2.2.length := hi
    by_cases h1 : i < 2000
    · by_cases h0 : i < 1000
      · simp only [h0, if_true]
      · simp only [h0, h1, if_true, if_false]
    · simp only [key σ.2.2 (i - 2000) (by omega)]
theorem zp_new {kr : Nat} {σ : ZS} {e : ZC} (h : zq kr σ) : zg (zp kr σ e) (zn kr σ) = some e := by
  unfold zg
  rcases h with ⟨rfl, a, b, d⟩ | ⟨rfl, a, b, d⟩ | ⟨rfl, a, b, d⟩
  · rw [show zp 0 σ e = (σ.1 ++ [e], σ.2.1, σ.2.2) from rfl, show zn 0 σ = σ.1.length from rfl, if_pos (by omega)]
    simp
  · rw [show zp 1 σ e = (σ.1, σ.2.1 ++ [e], σ.2.2) from rfl, show zn 1 σ = 1000 + σ.2.1.length from rfl, if_neg (by omega), if_pos (by omega), Nat.add_sub_cancel_left]
    simp
  · rw [show zp 2 σ e = (σ.1, σ.2.1, σ.2.2 ++ [e]) from rfl, show zn 2 σ = 2000 + σ.2.2.length from rfl, if_neg (by omega), if_neg (by omega), if_pos (by omega), Nat.add_sub_cancel_left]
    simp
/-- how many cells there are, told by what lies where -/
def Ln (σ : ZS) (a b c : Nat) : Prop := σ.1.length = a ∧ σ.2.1.length = b ∧ σ.2.2.length = c
theorem zp_len0 {σ : ZS} {e : ZC} {a : Nat} (h : Ln σ a 0 0) : Ln (zp 0 σ e) (a + 1) 0 0 := by
  refine ⟨?_, h.2.1, h.2.2⟩
  rw [show zp 0 σ e = (σ.1 ++ [e], σ.2.1, σ.2.2) from rfl]
  simp [h.1]
theorem zp_len1 {σ : ZS} {e : ZC} {b : Nat} (h : Ln σ 40 b 0) : Ln (zp 1 σ e) 40 (b + 1) 0 := by
  refine ⟨h.1, ?_, h.2.2⟩
  rw [show zp 1 σ e = (σ.1, σ.2.1 ++ [e], σ.2.2) from rfl]
  simp [h.2.1]
theorem zp_len2 {σ : ZS} {e : ZC} {c : Nat} (h : Ln σ 40 18 c) : Ln (zp 2 σ e) 40 18 (c + 1) := by
  refine ⟨h.1, h.2.1, ?_⟩
  rw [show zp 2 σ e = (σ.1, σ.2.1, σ.2.2 ++ [e]) from rfl]
  simp [h.2.2]
theorem zs_Ln {σ : ZS} {i a b c : Nat} {e : ZC} (h : Ln σ a b c) : Ln (zs σ i e) a b c := by
  obtain ⟨e1, e2, e3⟩ := zs_len (σ := σ) (i := i) (e := e)
  exact ⟨e1.trans h.1, e2.trans h.2.1, e3.trans h.2.2⟩
theorem Ln.zq0 {σ : ZS} {a : Nat} (h : Ln σ a 0 0) (ha : a < 40) : zq 0 σ := Or.inl ⟨rfl, by rw [h.1]; exact ha, h.2.1, h.2.2⟩
theorem Ln.zq1 {σ : ZS} {b : Nat} (h : Ln σ 40 b 0) (hb : b < 18) : zq 1 σ := Or.inr (Or.inl ⟨rfl, h.1, by rw [h.2.1]; exact hb, h.2.2⟩)
theorem Ln.zq2 {σ : ZS} {c : Nat} (h : Ln σ 40 18 c) (hc : c < 1000) : zq 2 σ := Or.inr (Or.inr ⟨rfl, h.1, h.2.1, by rw [h.2.2]; exact hc⟩)
theorem Ln.zn0 {σ : ZS} {a : Nat} (h : Ln σ a 0 0) : zn 0 σ = a := h.1
theorem Ln.zn1 {σ : ZS} {b : Nat} (h : Ln σ 40 b 0) : zn 1 σ = 1000 + b := by rw [show zn 1 σ = 1000 + σ.2.1.length from rfl, h.2.1]
theorem Ln.zn2 {σ : ZS} {c : Nat} (h : Ln σ 40 18 c) : zn 2 σ = 2000 + c := by rw [show zn 2 σ = 2000 + σ.2.2.length from rfl, h.2.2]
section GrowRows
variable {M : MD} {d mc ms kc ks pc : Nat} {Q : Option Value → ZS → Prop} {lv : List (Option Value)} {st : List Value} {σ : ZS}
/-- a cell more at ref r: what is known behind it -/
def Gw (kr r : Nat) (e : ZC) (σ σ' : ZS) : Prop := zg σ' r = some e ∧ Fr (fun i => i = r) σ σ' ∧ (∀ a, kr = 0 → Ln σ a 0 0 → Ln σ' (a + 1) 0 0) ∧ (∀ b, kr = 1 → Ln σ 40 b 0 → Ln σ' 40 (b + 1) 0) ∧ (∀ c, kr = 2 → Ln σ 40 18 c → Ln σ' 40 18 (c + 1))
theorem Gw.mk {kr r : Nat} {e : ZC} (hz : zq kr σ) (hr : zn kr σ = r) : Gw kr r e σ (zp kr σ e) := by
  subst hr
  exact ⟨zp_new hz, zp_fr hz, fun a h => by subst h; exact zp_len0, fun a h => by subst h; exact zp_len1, fun a h => by subst h; exact zp_len2⟩
theorem x_newG {idx ci kr r : Nat} {fs : List Value} (hm : zmk M.1.cls idx ci fs) (hz : zq kr σ) (hr : zn kr σ = r) (h1 : kc + 1 ≤ mc) (h2 : ks + fs.length ≤ ms) (hd : decode M.2.1 pc = .ok (.new idx, 3)) (k : ∀ σ' : ZS, Gw kr r (.inr (.inr (ci, fs))) σ σ' → X M d mc ms Q (kc + 1) (ks + fs.length) (pc + 3) lv (.ref r :: st) σ') : X M d mc ms Q kc ks pc lv st σ := by
  refine x_new hm hz h1 h2 hd ?_
  rw [hr]
  exact k _ (Gw.mk hz hr)
theorem x_newIG {n kr r : Nat} {x : Int32} (hw : Cond.arrayClass .int ∈ gtb) (hx : x = nI n) (hn : n ≤ 1000000) (hz : zq kr σ) (hr : zn kr σ = r) (h1 : kc + 1 ≤ mc) (h2 : ks + n ≤ ms) (hd : decode M.2.1 pc = .ok (.newarray .int, 2)) (k : ∀ σ' : ZS, Gw kr r (.inl (0, List.replicate n 0)) σ σ' → X M d mc ms Q (kc + 1) (ks + n) (pc + 2) lv (.ref r :: st) σ') : X M d mc ms Q kc ks pc lv (.int x :: st) σ := by
  refine x_newI hw hx hn hz h1 h2 hd ?_
  rw [hr]
  exact k _ (Gw.mk hz hr)
theorem x_newZG {n kr r : Nat} {x : Int32} (hw : Cond.arrayClass .boolean ∈ gtb) (hx : x = nI n) (hn : n ≤ 1000000) (hz : zq kr σ) (hr : zn kr σ = r) (h1 : kc + 1 ≤ mc) (h2 : ks + n ≤ ms) (hd : decode M.2.1 pc = .ok (.newarray .boolean, 2)) (k : ∀ σ' : ZS, Gw kr r (.inl (1, List.replicate n 0)) σ σ' → X M d mc ms Q (kc + 1) (ks + n) (pc + 2) lv (.ref r :: st) σ') : X M d mc ms Q kc ks pc lv (.int x :: st) σ := by
  refine x_newZ hw hx hn hz h1 h2 hd ?_
  rw [hr]
  exact k _ (Gw.mk hz hr)
theorem x_putFG {i idx ci j : Nat} {fs : List Value} {ty : FieldType} {v : Value} (hf : zfw M.1.cls idx ci j ty 1) (hi0 : M.1.name = "<init>") (hg : zg σ i = some (.inr (.inr (ci, fs)))) (hl : j < fs.length) (hn : ∀ c : ZX, narrow ty (zv c v) = zv c v ∧ fits ty (zv c v) = true) (hd : decode M.2.1 pc = .ok (.putfield idx, 3)) (k : ∀ σ' : ZS, zg σ' i = some (.inr (.inr (ci, fs.set j v))) → Fr (fun q => q = i) σ σ' → (∀ a b c, Ln σ a b c → Ln σ' a b c) → X M d mc ms Q kc ks (pc + 3) lv st σ') : X M d mc ms Q kc ks pc lv (v :: .ref i :: st) σ :=
  x_putF hf hi0 hg hl hn hd (k _ (zs_eq hg) (Fr.rf.zs rfl) (fun _ _ _ h => zs_Ln h))
theorem x_putG {i idx ci j : Nat} {fs : List Value} {ty : FieldType} {v : Value} (hf : zfw M.1.cls idx ci j ty 0) (hg : zg σ i = some (.inr (.inr (ci, fs)))) (hl : j < fs.length) (hn : ∀ c : ZX, narrow ty (zv c v) = zv c v ∧ fits ty (zv c v) = true) (hd : decode M.2.1 pc = .ok (.putfield idx, 3)) (k : ∀ σ' : ZS, zg σ' i = some (.inr (.inr (ci, fs.set j v))) → Fr (fun q => q = i) σ σ' → (∀ a b c, Ln σ a b c → Ln σ' a b c) → X M d mc ms Q kc ks (pc + 3) lv st σ') : X M d mc ms Q kc ks pc lv (v :: .ref i :: st) σ :=
  x_put hf hg hl hn hd (k _ (zs_eq hg) (Fr.rf.zs rfl) (fun _ _ _ h => zs_Ln h))
theorem x_iastG {r n : Nat} {x v : Int32} {a : List Int32} (hg : zg σ r = some (.inl (0, a))) (hx : x = nI n) (hn : n < a.length) (hd : decode M.2.1 pc = .ok (.iastore, 1)) (k : ∀ σ' : ZS, zg σ' r = some (.inl (0, a.set n v)) → Fr (fun q => q = r) σ σ' → (∀ a b c, Ln σ a b c → Ln σ' a b c) → X M d mc ms Q kc ks (pc + 1) lv st σ') : X M d mc ms Q kc ks pc lv (.int v :: .int x :: .ref r :: st) σ :=
  x_iast hg hx hn hd (k _ (zs_eq hg) (Fr.rf.zs rfl) (fun _ _ _ h => zs_Ln h))
theorem x_aastG {r n t w ci : Nat} {x : Int32} {a : List (Option Nat)} {fs : List Value} (ht : (t = 2 ∧ ci = 3) ∨ (t = 3 ∧ ci = 5)) (hg : zg σ r = some (.inr (.inl (t, a)))) (hw : zg σ w = some (.inr (.inr (ci, fs)))) (hx : x = nI n) (hn : n < a.length) (hd : decode M.2.1 pc = .ok (.aastore, 1)) (k : ∀ σ' : ZS, zg σ' r = some (.inr (.inl (t, a.set n (some w)))) → Fr (fun q => q = r) σ σ' → (∀ a b c, Ln σ a b c → Ln σ' a b c) → X M d mc ms Q kc ks (pc + 1) lv st σ') : X M d mc ms Q kc ks pc lv (.ref w :: .int x :: .ref r :: st) σ :=
  x_aast ht hg hw hx hn hd (k _ (zs_eq hg) (Fr.rf.zs rfl) (fun _ _ _ h => zs_Ln h))
theorem x_anewG {idx n kr t r : Nat} {x : Int32} {C : String} (ht : (t = 2 ∧ C = RX4) ∨ (t = 3 ∧ C = RX6)) (hw : Cond.classLink M.1.cls idx C ∈ gtb) (hx : x = nI n) (hn : n ≤ 1000000) (hz : zq kr σ) (hr : zn kr σ = r) (h1 : kc + 1 ≤ mc) (h2 : ks + n ≤ ms) (hd : decode M.2.1 pc = .ok (.anewarray idx, 3)) (k : ∀ σ' : ZS, Gw kr r (.inr (.inl (t, List.replicate n none))) σ σ' → X M d mc ms Q (kc + 1) (ks + n) (pc + 3) lv (.ref r :: st) σ') : X M d mc ms Q kc ks pc lv (.int x :: st) σ := by
  refine x_anew ht hw hx hn hz h1 h2 hd ?_
  rw [hr]
  exact k _ (Gw.mk hz hr)
end GrowRows
