/-! seating: pure words -/
def popc (A : Nat) : Nat := ((List.range 7).filter (fun i => A.testBit i)).length
def nxS (m s : Nat) : Nat := if s + 1 < m then s + 1 else 0
def prS (r : Bool) (m : Nat) : Nat := if r = true ∧ 3 ≤ m then m else m - 1
/-- whether the one on seat s has whom they must have beside -/
def contB (r : Bool) (m : Nat) (t : List Nat) (wl : List (Option Nat)) (s : Nat) : Bool := match wl.getD (t.getD s 0) none with
  | none => true
  | some w => ((decide (0 < s) || r) && decide (t.getD (if 0 < s then s - 1 else m - 1) 0 = w)) || ((decide (s + 1 < m) || r) && decide (t.getD (nxS m s) 0 = w))
def ffrom (f : Nat → Bool) : Nat → Nat → Option Nat
  | 0, _ => none
  | q + 1, k => if f k = true then some k else ffrom f q (k + 1)
def sumI (f : Nat → Int32) : Nat → Int32
  | 0 => nI 0
  | k + 1 => sumI f k + f k
def Se (σ : ZS) (bw am sz rd jd fd en : Int32) (T Wi B Wo Ho : List Int32) : Prop :=
  zg σ 22 = some (.inr (.inr (4, [.ref 23, .ref 24, .ref 25, .int bw, .int am, .int sz, .int rd, .int jd, .int fd, .int en, .ref 26, .ref 27]))) ∧ zg σ 23 = some (.inl (0, T)) ∧ zg σ 24 = some (.inl (0, Wi)) ∧ zg σ 25 = some (.inl (0, B)) ∧ zg σ 26 = some (.inl (0, Wo)) ∧ zg σ 27 = some (.inl (0, Ho)) ∧ T.length = 7 ∧ Wi.length = 7 ∧ B.length = 7 ∧ Wo.length = 343 ∧ Ho.length = 9
theorem Se.fr {σ σ' : ZS} {bw am sz rd jd fd en : Int32} {T Wi B Wo Ho : List Int32} {P : Nat → Prop} (h : Se σ bw am sz rd jd fd en T Wi B Wo Ho) (hF : Fr P σ σ') (hP : ∀ i, 22 ≤ i ∧ i ≤ 27 → ¬ P i) : Se σ' bw am sz rd jd fd en T Wi B Wo Ho := by
  obtain ⟨h1, h2, h3, h4, h5, h6, h7⟩ := h
  exact ⟨hF.at (hP _ (by omega)) h1, hF.at (hP _ (by omega)) h2, hF.at (hP _ (by omega)) h3, hF.at (hP _ (by omega)) h4, hF.at (hP _ (by omega)) h5, hF.at (hP _ (by omega)) h6, h7⟩
theorem gm_oI {wl : List (Option Nat)} {k : Nat} (h : k < wl.length) : (wl.map oI).getD k 0 = oI (wl.getD k none) := by
  rw [List.getD_eq_getElem?_getD, List.getElem?_map, List.getD_eq_getElem?_getD, List.getElem?_eq_getElem h]
  rfl
def W7 (wl : List (Option Nat)) : Prop := wl.length = 7 ∧ ∀ i w, wl.getD i none = some w → w < 7
def T7 (t : List Nat) : Prop := t.length = 7 ∧ ∀ i, t.getD i 0 < 7
/-- what a company's members wish -/
def wlS (K N D : List Nat) (n A : Nat) (e : Int32) : List (Option Nat) := (List.range 7).map (fun i => if A.testBit i = true ∧ ¬ ((i : Nat) : Int) = e.toInt then wishO K N D n i A else none)
theorem wishO_lt {K N D : List Nat} {n p S w : Nat} (h : wishO K N D n p S = some w) : w < n ∧ S.testBit w = true ∧ 0 < D.getD (p * 7 + w) 0 := by
  unfold wishO at h
  cases hc : cred D n p S with
  | none => rw [hc] at h; cases h
  | some c =>
    rw [hc] at h
    by_cases hm : mustB (K.getD p 0) (N.getD p 0) (D.getD (p * 7 + c) 0) = true
    · simp only [hm, if_true] at h
      cases h
      exact (credF_ok D p S n).2 _ hc
    · simp only [hm] at h
      cases h
theorem wlS_get {K N D : List Nat} {n A : Nat} {e : Int32} {i : Nat} (hi : i < 7) : (wlS K N D n A e).getD i none = if A.testBit i = true ∧ ¬ ((i : Nat) : Int) = e.toInt then wishO K N D n i A else none := by
  rw [wlS, List.getD_eq_getElem?_getD, List.getElem?_map, List.getElem?_range hi]
  rfl
theorem wlS_ok {K N D : List Nat} {n A : Nat} {e : Int32} (hn : n ≤ 7) : W7 (wlS K N D n A e) := by
  refine ⟨by simp [wlS], fun i w h => ?_⟩
  by_cases hi : i < 7
  · rw [wlS_get hi] at h
    by_cases hc : A.testBit i = true ∧ ¬ ((i : Nat) : Int) = e.toInt
    · rw [if_pos hc] at h
      have := (wishO_lt h).1
      omega
    · rw [if_neg hc] at h; cases h
  · rw [List.getD_eq_getElem?_getD, List.getElem?_eq_none (by simp [wlS]; omega)] at h
    cases h
section MathRows
variable {M : MD} {d mc ms kc ks pc : Nat} {Q : Option Value → ZS → Prop} {lv : List (Option Value)} {st : List Value} {σ : ZS}
theorem zcat2 {c : ZX} (st : List Value) : ((st.map (zv c)).map fun v => v.category).sum = (st.map fun v => v.category).sum := by
  rw [List.map_map]
  congr 1
  exact List.map_congr_left (fun v _ => zv_cat c v)
theorem w_mmax : Cond.static Lib.Math.max.name ∈ gtb ∧ Cond.initialized "java/lang/Math" ∈ gtb ∧ Cond.code Lib.Math.max.name Lib.Math.max.code 2 (some .int) ∈ gtb := ⟨m_J9_max_7cf53.2, m_J9_max_7cf53.1.2.1, m_J9_max_7cf53.1.1⟩
theorem w_mmin : Cond.static Lib.Math.min.name ∈ gtb ∧ Cond.initialized "java/lang/Math" ∈ gtb ∧ Cond.code Lib.Math.min.name Lib.Math.min.code 2 (some .int) ∈ gtb := ⟨m_J9_min_7cf53.2, m_J9_min_7cf53.1.2.1, m_J9_min_7cf53.1.1⟩
theorem x_mmax {idx : Nat} {x y : Int32} (hl : Cond.methodLink M.1.cls idx Lib.Math.max.name ∈ gtb) (hdp : 1 ≤ d) (hcat : (st.map fun v => v.category).sum ≤ 8) (hk : kc ≤ mc ∧ ks ≤ ms) (hd : decode M.2.1 pc = .ok (.invokestatic idx, 3)) (k : X M d mc ms Q kc ks (pc + 3) lv (.int (if x.toInt < y.toInt then y else x) :: st) σ) : X M d mc ms Q kc ks pc lv (.int y :: .int x :: st) σ := by
  intro c p l e s m args below meth cd H locs cells slots ls F R L hc hs V
  have hts := F.2.2.2.2.2.2.2.1
  refine va_mmax F.1 F.2.1 (F.2.2.2.1.trans V.1.symm) F.2.2.2.2.2.1 (hts _ hl) (hts _ w_mmax.1) (hts _ w_mmax.2.1) (hts _ w_mmax.2.2) hdp (by rw [zcat2]; show _ ≤ 40 * d; omega) (Nat.le_trans hc hk.1) (Nat.le_trans hs hk.2) hd ?_
  have h := k c p l e s m args below meth cd H locs cells slots ls F R L hc hs V
  have e : (if x < y then y else x) = (if x.toInt < y.toInt then y else x) := by simp only [Int32.lt_iff_toInt_lt]
  rw [e]
  exact h
theorem x_mmin {idx : Nat} {x y : Int32} (hl : Cond.methodLink M.1.cls idx Lib.Math.min.name ∈ gtb) (hdp : 1 ≤ d) (hcat : (st.map fun v => v.category).sum ≤ 8) (hk : kc ≤ mc ∧ ks ≤ ms) (hd : decode M.2.1 pc = .ok (.invokestatic idx, 3)) (k : X M d mc ms Q kc ks (pc + 3) lv (.int (if y.toInt < x.toInt then y else x) :: st) σ) : X M d mc ms Q kc ks pc lv (.int y :: .int x :: st) σ := by
  intro c p l e s m args below meth cd H locs cells slots ls F R L hc hs V
  have hts := F.2.2.2.2.2.2.2.1
  refine va_mmin F.1 F.2.1 (F.2.2.2.1.trans V.1.symm) F.2.2.2.2.2.1 (hts _ hl) (hts _ w_mmin.1) (hts _ w_mmin.2.1) (hts _ w_mmin.2.2) hdp (by rw [zcat2]; show _ ≤ 40 * d; omega) (Nat.le_trans hc hk.1) (Nat.le_trans hs hk.2) hd ?_
  have h := k c p l e s m args below meth cd H locs cells slots ls F R L hc hs V
  have e : (if y < x then y else x) = (if y.toInt < x.toInt then y else x) := by simp only [Int32.lt_iff_toInt_lt]
  rw [e]
  exact h
end MathRows
def pvS (m s : Nat) : Nat := if 0 < s then s - 1 else m - 1
theorem contB_iff {r : Bool} {m : Nat} {t : List Nat} {wl : List (Option Nat)} {s w : Nat} (hc : wl.getD (t.getD s 0) none = some w) : contB r m t wl s = decide (((0 < s ∨ r = true) ∧ t.getD (pvS m s) 0 = w) ∨ ((s + 1 < m ∨ r = true) ∧ t.getD (nxS m s) 0 = w)) := by
  rw [contB, hc]
  simp only [Bool.decide_or, Bool.decide_and, pvS]
  cases r <;> simp
theorem bI_1 {P : Prop} {i : Decidable P} (h : P) : bI (@decide P i) = nI 1 := by rw [bI_if, if_pos h]
theorem bI_0 {P : Prop} {i : Decidable P} (h : ¬ P) : bI (@decide P i) = nI 0 := by rw [bI_if, if_neg h]
