/-! The abstract machine: stores of abstract cells, refs by number; X: the judgement; one row an instruction. -/
def gtb : List Cond := lw_tbl.filter goodWord
theorem gt_of {w : Cond} (h : w ∈ lw_tbl) (g : goodWord w = true) : w ∈ gtb := List.mem_filter.mpr ⟨h, g⟩
theorem gt_tab {w : Cond} (h : w ∈ tables_1) (g : goodWord w = true) : w ∈ gtb := gt_of (List.mem_append_right _ h) g
theorem gt_good : ∀ w ∈ gtb, (w.onTables && w.keeps) = true ∨ ∃ ty, w = .arrayClass ty := fun w h => good_of_word (List.mem_filter.mp h).2
/-- cells: a primitive row (0 int, 1 boolean), a row of refs (2 Rule, 3 Sheet), an object -/
abbrev ZC : Type := (Nat × List Int32) ⊕ ((Nat × List (Option Nat)) ⊕ (Nat × List Value))
/-- stores: the class's cells from 0 on, the reference's from 1000 on, those made later from 2000 on -/
abbrev ZS : Type := List ZC × List ZC × List ZC
def zg (σ : ZS) (i : Nat) : Option ZC := if i < 1000 then σ.1[i]? else if i < 2000 then σ.2.1[i - 1000]? else if i < 3000 then σ.2.2[i - 2000]? else none
def zs (σ : ZS) (i : Nat) (c : ZC) : ZS := if i < 1000 then (σ.1.set i c, σ.2.1, σ.2.2) else if i < 2000 then (σ.1, σ.2.1.set (i - 1000) c, σ.2.2) else (σ.1, σ.2.1, σ.2.2.set (i - 2000) c)
/-- a run's constants: where the cells begin, the heap ahead of that; class numbers and slots; array classes; addresses of what lay there before -/
abbrev ZX : Type := (Nat × Heap) × va_G × (Nat → ClassId) × (Nat → Nat)
def za (c : ZX) (i : Nat) : Nat := if i < 1000 then c.1.1 + i else if i < 2000 then c.1.1 + 40 + (i - 1000) else if i < 3000 then c.1.1 + 58 + (i - 2000) else c.2.2.2 (i - 3000)
def zv (c : ZX) : Value → Value
  | .ref i => .ref (za c i)
  | v => v
def ze (c : ZX) : ZC → va_E
  | .inl q => .inl (c.2.2.1 q.1, q.2.length, .inl (fun k => q.2.getD k 0))
  | .inr (.inl q) => .inl (c.2.2.1 q.1, q.2.length, .inr (.inr (.inr (.inr (fun k => (q.2.getD k none).map (za c))))))
  | .inr (.inr q) => .inr (q.1, q.2.map (zv c))
abbrev zcl : List vw_C := [(RX1, TX1, 2), (RX2, TX2, 8), (RX3, TX3, 11), (RX4, TX4, 4), (RX5, TX5, 12), (RX6, TX6, 3), (RX7, TX7, 9), (RX8, TX8, 52)]
def ztys (c : ZX) : List (ClassId × FieldType) := [(c.2.2.1 0, .int), (c.2.2.1 1, .boolean), (c.2.2.1 2, .object RX4), (c.2.2.1 3, .object RX6)]
/-- a row is no longer than this -/
def zl : ZC → Prop
  | .inl q => q.2.length ≤ 1000000
  | .inr (.inl q) => q.2.length ≤ 1000000
  | .inr (.inr _) => True
def zR (c : ZX) (σ : ZS) (H : Heap) : Prop :=
  H.size = c.1.1 + (σ.1.length + σ.2.1.length + σ.2.2.length) ∧ (σ.1.length ≤ 40 ∧ σ.2.1.length ≤ 18 ∧ σ.2.2.length ≤ 1000) ∧ (σ.2.1.length = 0 ∨ σ.1.length = 40) ∧ (σ.2.2.length = 0 ∨ (σ.1.length = 40 ∧ σ.2.1.length = 18)) ∧ (∀ q : Nat, q < c.1.1 → H[q]? = c.1.2[q]?) ∧ ∀ (i : Nat) (e : ZC), zg σ i = some e → va_at c.2.1 zcl (za c i, ze c e) H ∧ zl e
theorem zg_lt {σ : ZS} {i : Nat} {e : ZC} (h : zg σ i = some e) : (i < 1000 ∧ i < σ.1.length) ∨ (1000 ≤ i ∧ i < 2000 ∧ i - 1000 < σ.2.1.length) ∨ (2000 ≤ i ∧ i < 3000 ∧ i - 2000 < σ.2.2.length) := by
  unfold zg at h
  by_cases h1 : i < 1000
  · rw [if_pos h1] at h
    exact Or.inl ⟨h1, (List.getElem?_eq_some_iff.mp h).1⟩
  · rw [if_neg h1] at h
    by_cases h2 : i < 2000
    · rw [if_pos h2] at h
      exact Or.inr (Or.inl ⟨by omega, h2, (List.getElem?_eq_some_iff.mp h).1⟩)
    · rw [if_neg h2] at h
      by_cases h3 : i < 3000
      · rw [if_pos h3] at h
        exact Or.inr (Or.inr ⟨by omega, h3, (List.getElem?_eq_some_iff.mp h).1⟩)
      · rw [if_neg h3] at h
        cases h
theorem za_inj {c : ZX} {σ : ZS} {H : Heap} (hR : zR c σ H) {i j : Nat} {e f : ZC} (hi : zg σ i = some e) (hj : zg σ j = some f) (h : za c i = za c j) : i = j := by
  obtain ⟨-, ⟨l1, l2, l3⟩, l4, l5, -⟩ := hR
  have a := zg_lt hi
  have b := zg_lt hj
  unfold za at h
  rcases a with ⟨a1, a2⟩ | ⟨a1, a2, a3⟩ | ⟨a1, a2, a3⟩ <;> rcases b with ⟨b1, b2⟩ | ⟨b1, b2, b3⟩ | ⟨b1, b2, b3⟩
  · rw [if_pos a1, if_pos b1] at h; omega
  · rw [if_pos a1, if_neg (by omega), if_pos b2] at h; omega
  · rw [if_pos a1, if_neg (by omega), if_neg (by omega), if_pos b2] at h; omega
  · rw [if_neg (by omega), if_pos a2, if_pos b1] at h; omega
  · rw [if_neg (by omega), if_pos a2, if_neg (by omega), if_pos b2] at h; omega
  · rw [if_neg (by omega), if_pos a2, if_neg (by omega), if_neg (by omega), if_pos b2] at h; omega
  · rw [if_neg (by omega), if_neg (by omega), if_pos a2, if_pos b1] at h; omega
  · rw [if_neg (by omega), if_neg (by omega), if_pos a2, if_neg (by omega), if_pos b2] at h; omega
  · rw [if_neg (by omega), if_neg (by omega), if_pos a2, if_neg (by omega), if_neg (by omega), if_pos b2] at h; omega
theorem za_ge {c : ZX} {σ : ZS} {i : Nat} {e : ZC} (hi : zg σ i = some e) : c.1.1 ≤ za c i := by
  have a := zg_lt hi
  unfold za
  rcases a with ⟨a1, a2⟩ | ⟨a1, a2, a3⟩ | ⟨a1, a2, a3⟩
  · rw [if_pos a1]; omega
  · rw [if_neg (by omega), if_pos a2]; omega
  · rw [if_neg (by omega), if_neg (by omega), if_pos a2]; omega
theorem zs_len {σ : ZS} {i : Nat} {e : ZC} : (zs σ i e).1.length = σ.1.length ∧ (zs σ i e).2.1.length = σ.2.1.length ∧ (zs σ i e).2.2.length = σ.2.2.length := by
  unfold zs
  split
  · simp
  · split <;> simp
theorem zg_zs {σ : ZS} {i j : Nat} {e f0 f : ZC} (hi : zg σ i = some f0) (hj : zg (zs σ i e) j = some f) : (j = i ∧ f = e) ∨ (j ≠ i ∧ zg σ j = some f) := by
  by_cases hij : j = i
  · subst hij
    refine Or.inl ⟨rfl, ?_⟩
    have a := zg_lt hi
    unfold zg zs at hj
    rcases a with ⟨a1, a2⟩ | ⟨a1, a2, a3⟩ | ⟨a1, a2, a3⟩
    · rw [if_pos a1, if_pos a1] at hj
      rw [List.getElem?_set_self a2] at hj
      exact (Option.some.inj hj).symm
    · rw [if_neg (show ¬ j < 1000 by omega), if_neg (show ¬ j < 1000 by omega), if_pos a2, if_pos a2] at hj
      rw [List.getElem?_set_self a3] at hj
      exact (Option.some.inj hj).symm
    · rw [if_neg (show ¬ j < 1000 by omega), if_neg (show ¬ j < 1000 by omega), if_neg (show ¬ j < 2000 by omega), if_neg (show ¬ j < 2000 by omega), if_pos a2] at hj
      rw [List.getElem?_set_self a3] at hj
      exact (Option.some.inj hj).symm
  · refine Or.inr ⟨hij, ?_⟩
    have a := zg_lt hi
    unfold zg zs at hj
    unfold zg
    rcases a with ⟨a1, a2⟩ | ⟨a1, a2, a3⟩ | ⟨a1, a2, a3⟩
    · rw [if_pos a1] at hj
      by_cases h1 : j < 1000
      · rw [if_pos h1] at hj ⊢
        rw [List.getElem?_set_ne (fun q => hij q.symm)] at hj
        exact hj
      · rw [if_neg h1] at hj ⊢
        exact hj
    · rw [if_neg (show ¬ i < 1000 by omega), if_pos a2] at hj
      by_cases h1 : j < 1000
      · rw [if_pos h1] at hj ⊢
        exact hj
      · rw [if_neg h1] at hj ⊢
        by_cases h2 : j < 2000
        · rw [if_pos h2] at hj ⊢
          rw [List.getElem?_set_ne (by omega)] at hj
          exact hj
        · rw [if_neg h2] at hj ⊢
          exact hj
    · rw [if_neg (show ¬ i < 1000 by omega), if_neg (show ¬ i < 2000 by omega)] at hj
      by_cases h1 : j < 1000
      · rw [if_pos h1] at hj ⊢
        exact hj
      · rw [if_neg h1] at hj ⊢
        by_cases h2 : j < 2000
        · rw [if_pos h2] at hj ⊢
          exact hj
        · rw [if_neg h2] at hj ⊢
          by_cases h3 : j < 3000
          · rw [if_pos h3] at hj ⊢
            rw [List.getElem?_set_ne (by omega)] at hj
            exact hj
          · rw [if_neg h3] at hj
            cases hj
theorem zR.set {c : ZX} {σ : ZS} {H H1 : Heap} {i : Nat} {e0 e : ZC} (hR : zR c σ H) (hi : zg σ i = some e0) (he : va_at c.2.1 zcl (za c i, ze c e) H1) (hl : zl e) (hz : H1.size = H.size) (ho : ∀ q : Nat, q ≠ za c i → H1[q]? = H[q]?) : zR c (zs σ i e) H1 := by
  have hge := za_ge (c := c) hi
  have hinj := fun (j : Nat) (f : ZC) (hj : zg σ j = some f) => za_inj hR hi hj
  obtain ⟨s1, ⟨l1, l2, l3⟩, l4, l5, hb, hc⟩ := hR
  obtain ⟨e1, e2, e3⟩ := zs_len (σ := σ) (i := i) (e := e)
  refine ⟨by rw [hz, e1, e2, e3]; exact s1, by rw [e1, e2, e3]; exact ⟨l1, l2, l3⟩, by rw [e1, e2]; exact l4, by rw [e1, e2, e3]; exact l5, fun q hq => ?_, fun j f hj => ?_⟩
  · rw [ho q (by omega)]; exact hb q hq
  · rcases zg_zs hi hj with ⟨rfl, rfl⟩ | ⟨hne, hj⟩
    · exact ⟨he, hl⟩
    · obtain ⟨h1, h2⟩ := hc j f hj
      exact ⟨h1.kept (ho _ (fun q => hne (hinj j f hj q.symm).symm)), h2⟩
