/-! guests off a sheet -/
abbrev PT4 : Type := Nat × List Nat × List Nat × List Int32
def gsC (n : Nat) (x y : Int32) : Prop := ((0 ≤ x.toInt ∧ x.toInt ≤ 5) ∧ (0 ≤ y.toInt ∧ y.toInt ≤ 9)) ∧ n < 7
def gsB (n : Nat) (x y : Int32) : Bool := decide (((0 ≤ x.toInt ∧ x.toInt ≤ 5) ∧ (0 ≤ y.toInt ∧ y.toInt ≤ 9)) ∧ n < 7)
def gsP (P : PT4) (x y : Int32) : PT4 := if gsB P.1 x y = true then (P.1 + 1, P.2.1.set P.1 x.toInt.toNat, P.2.2.1.set P.1 y.toInt.toNat, P.2.2.2.set P.1 (-1)) else P
def gsV (n : Nat) (x y : Int32) : Int32 := if ¬ ((0 ≤ x.toInt ∧ x.toInt ≤ 5) ∧ (0 ≤ y.toInt ∧ y.toInt ≤ 9)) then -2 else if n = 7 then -4 else nI n
def gsF (row : List Int32) (sz u : Nat) : Nat → Nat → Nat → PT4 → Int32 × PT4
  | 0, _, c, P => (nI c, P)
  | q + 1, k, c, P => if sz < u + 2 * k + 2 then (-12, P) else gsF row sz u q (k + 1) (c + (if gsB P.1 (row.getD (u + 2 * k) 0) (row.getD (u + 2 * k + 1) 0) = true then 1 else 0)) (gsP P (row.getD (u + 2 * k) 0) (row.getD (u + 2 * k + 1) 0))
def Dz (n : Nat) (D : List Nat) : Prop := ∀ i j, i < 7 → j < 7 → (n ≤ i ∨ n ≤ j) → D.getD (i * 7 + j) 0 = 0
def RCP (a : Nat → Int32) (b : Nat → List Int32) (rr : Nat) (D : List Nat) (P : PT4) : Prop := RC a b rr P.1 P.2.1 P.2.2.1 P.2.2.2 D (-1) ∧ P.2.1.length = 7 ∧ Dz P.1 D
theorem r_guestG {σ0 σ : ZS} {a : Nat → Int32} {tw : Int64} {b : Nat → List Int32} {rr : Nat} {D : List Nat} {P : PT4} (hR : RM σ0 σ a tw b) (hC : RCP a b rr D P) {x y : Int32} : Cn 2 M_X8_guest 0 0 [.ref 1000, .int x, .int y] σ (fun r9 σ' => r9 = some (.int (gsV P.1 x y)) ∧ ∃ (a' : Nat → Int32) (b' : Nat → List Int32), RM σ0 σ' a' tw b' ∧ RCP a' b' rr D (gsP P x y) ∧ (∀ j, j ≠ 13 → a' j = a j) ∧ (∀ j, j ≠ 3 → j ≠ 4 → j ≠ 5 → b' j = b j)) := by
  obtain ⟨n, K, N, W⟩ := P
  obtain ⟨hC, hK7, hz⟩ := hC
  simp only at hC hK7 hz
  have hn7 := hC.2.2.2.1
  by_cases c : (0 ≤ x.toInt ∧ x.toInt ≤ 5) ∧ (0 ≤ y.toInt ∧ y.toInt ≤ 9)
  · by_cases h7 : n < 7
    · have hx : x = nI x.toInt.toNat := ni_of c.1.1
      have hy : y = nI y.toInt.toNat := ni_of c.2.1
      have h := r_guest (kd := x.toInt.toNat) (nu := y.toInt.toNat) hR hC (by omega) (by omega) h7 (fun j hj => ⟨hz n j h7 hj (Or.inl (Nat.le_refl _)), hz j n hj h7 (Or.inr (Nat.le_refl _))⟩)
      rw [← hx, ← hy] at h
      have hb : gsB n x y = true := decide_eq_true ⟨c, h7⟩
      refine h.mono (fun r9 σ' hq => ?_)
      obtain ⟨h1, b', h2, h3⟩ := hq
      refine ⟨by rw [h1, gsV, if_neg (fun z => z c), if_neg (by omega)], _, b', h2, ?_, fun j hj => up_ne _ _ hj, fun j j3 j4 j5 => by rw [h3 j, up_ne _ _ j5, up_ne _ _ j4, up_ne _ _ j3]⟩
      have e : gsP (n, K, N, W) x y = (n + 1, K.set n x.toInt.toNat, N.set n y.toInt.toNat, W.set n (-1)) := if_pos hb
      rw [e]
      refine ⟨hC.add h7 (by omega) (by omega) hK7 (hR.rlen (j := 3) (by decide) (m := 7) rfl) (by rw [h3 3, ← hx]; rfl) (by rw [h3 4, ← hy]; rfl) (by rw [h3 5]; rfl) (by rw [h3 6]; rfl), by rw [List.length_set]; exact hK7, fun i j hi hj hij => hz i j hi hj (by simp only at hij; omega)⟩
    · have hb : ¬ gsB n x y = true := fun z => h7 (of_decide_eq_true z).2
      have e : gsP (n, K, N, W) x y = (n, K, N, W) := if_neg hb
      refine (r_guest_f hR hC c.1 c.2 (by omega)).mono (fun r9 σ' hq => ?_)
      rw [e]
      exact ⟨by rw [hq.1, gsV, if_neg (fun z => z c), if_pos (by simp only; omega)], a, b, by rw [hq.2]; exact hR, ⟨hC, hK7, hz⟩, fun _ _ => rfl, fun _ _ _ _ => rfl⟩
  · have hb : ¬ gsB n x y = true := fun z => c (of_decide_eq_true z).1
    have e : gsP (n, K, N, W) x y = (n, K, N, W) := if_neg hb
    refine (r_guest_b hR hC (by omega)).mono (fun r9 σ' hq => ?_)
    rw [e]
    exact ⟨by rw [hq.1, gsV, if_pos c], a, b, by rw [hq.2]; exact hR, ⟨hC, hK7, hz⟩, fun _ _ => rfl, fun _ _ _ _ => rfl⟩
theorem gsV_B {n : Nat} {x y : Int32} (hn : n ≤ 7) : 0 ≤ (gsV n x y).toInt ↔ gsB n x y = true := by
  unfold gsV gsB
  rw [decide_eq_true_iff]
  by_cases c : (0 ≤ x.toInt ∧ x.toInt ≤ 5) ∧ (0 ≤ y.toInt ∧ y.toInt ≤ 9)
  · rw [if_neg (fun z => z c)]
    by_cases h : n = 7
    · rw [if_pos h]
      exact ⟨fun z => absurd z (by decide), fun z => absurd z.2 (by omega)⟩
    · rw [if_neg h, tI_nI (by omega)]
      exact ⟨fun _ => ⟨c, by omega⟩, fun _ => by omega⟩
  · rw [if_pos c]
    exact ⟨fun z => absurd z (by decide), fun z => absurd z.1 c⟩
theorem sub2k : ∀ s, s < 41 → ∀ k, k < 8 → (nI s - nI (2 * k) - nI 2).toInt = (s : Int) - 2 * (k : Int) - 2 := by
  intro s hs k hk
  have e1 : (nI s - nI (2 * k)).toInt = (s : Int) - 2 * (k : Int) := by
    rw [Int32.toInt_sub, tI_nI (by omega), tI_nI (by omega), bm32 (by omega) (by omega)]
    omega
  rw [Int32.toInt_sub, e1, tI_nI (by omega), bm32 (by omega) (by omega)]
  rfl
theorem it16 {b : Nat → List Int32} {sh : Nat → SH} {i j p : Nat} (hS : RSH b sh) (hi : i < 4) (hne : ¬ (sh i).1 = -1) (hp : p = i * 40 + j) (hj : j < (sh i).2.1) : (b 16).getD p 0 = (sh i).2.2.getD j 0 := by rw [hp]; exact ((hS i hi).2 hne).2.2 j hj
set_option maxHeartbeats 4000000 in
theorem lr_guests {σ0 : ZS} {a0 : Nat → Int32} {tw : Int64} {b0 : Nat → List Int32} {rr : Nat} {D : List Nat} {sh : Nat → SH} {i : Nat} (hi4 : i < 4) (hne : ¬ (sh i).1 = -1) (hz40 : (sh i).2.1 ≤ 40) {so : Int32} {u n : Nat} (hu31 : u < 2147483648) (hn7 : n ≤ 7) {d : Nat} (hd : 3 ≤ d) : ∀ (q k : Nat) (c : Nat) (P : PT4) (a : Nat → Int32) (b : Nat → List Int32) (σ : ZS) (hcc : c ≤ k) (hR : RM σ0 σ a tw b) (hC : RCP a b rr D P) (hS : RSH b sh) (hA : ∀ j, j ≠ 13 → a j = a0 j) (hB : ∀ j, j ≠ 3 → j ≠ 4 → j ≠ 5 → b j = b0 j), k + q = n → X M_X8_guests d 0 0 (fun r9 σ' => ∃ (a' : Nat → Int32) (b' : Nat → List Int32), r9 = some (.int (gsF (sh i).2.2 (sh i).2.1 u q k c P).1) ∧ RM σ0 σ' a' tw b' ∧ RCP a' b' rr D (gsF (sh i).2.2 (sh i).2.1 u q k c P).2 ∧ (∀ j, j ≠ 13 → a' j = a0 j) ∧ (∀ j, j ≠ 3 → j ≠ 4 → j ≠ 5 → b' j = b0 j)) 0 0 75 [some (.ref 1000), some (.int (nI i)), some (.int so), some (.int (nI u)), some (.int (nI n)), some (.int (nI c)), some (.int (nI k)), none] [] σ := by
  intro q
  induction q with
  | zero =>
    intro k c P a b σ hcc hR hC hS hA hB hk
    refine x_iload dX8_guests_75 rfl ?_
    refine x_iload dX8_guests_77 rfl ?_
    refine x_icmpN_ge (tgt := 158) dX8_guests_79 (by decide) (by omega) (by omega) (fun hv1 => ?_) (fun hv1 => ?_)
    · refine x_iload dX8_guests_158 rfl ?_
      exact x_iret ⟨Nat.le_refl _, Nat.le_refl _⟩ rfl dX8_guests_160 ⟨a, b, rfl, hR, hC, hA, hB⟩
    · exact absurd hv1 (by omega)
  | succ q ih =>
    intro k c P a b σ hcc hR hC hS hA hB hk
    refine x_iload dX8_guests_75 rfl ?_
    refine x_iload dX8_guests_77 rfl ?_
    refine x_icmpN_ge (tgt := 158) dX8_guests_79 (by decide) (by omega) (by omega) (fun hv1 => ?_) (fun hv1 => ?_)
    · exact absurd hv1 (by omega)
    · refine x_iload_n dX8_guests_82 rfl ?_
      refine x_ifN_lt (tgt := 103) dX8_guests_83 (by omega) ?_ (by decide)
      refine x_iload_n dX8_guests_86 rfl ?_
      refine x_aload_n dX8_guests_87 rfl ?_
      refine x_rget f_X8_69 hR rfl dX8_guests_88 ?_
      refine x_iload_n dX8_guests_91 rfl ?_
      refine x_rald (j := 15) (n := i) hR rfl (by decide) rfl rfl (rlt hR (m := 4) (by decide) rfl (by omega)) dX8_guests_92 ?_
      refine x_topi (y := nI ((sh i).2.1)) ((hS i hi4).2 hne).2.1 ?_
      refine x_iconst (v := nI 2) dX8_guests_93 (by decide) ?_
      refine x_iload dX8_guests_94 rfl ?_
      refine x_imulN dX8_guests_96 ?_
      refine x_isub dX8_guests_97 ?_
      refine x_iconst (v := nI 2) dX8_guests_98 (by decide) ?_
      refine x_isub dX8_guests_99 ?_
      refine x_icmpT_le (p := ((u : Nat) : Int)) (q := ((((sh i).2.1 : Nat) : Int) - 2 * ((k : Nat) : Int) - 2)) (tgt := 106) (nI_toInt (by omega)) (sub2k _ (by omega) _ (by omega)) dX8_guests_100 (by decide) (fun hv3 => ?_) (fun hv3 => ?_)
      · refine x_bipush (v := nI 40) dX8_guests_106 (by decide) ?_
        refine x_iload_n dX8_guests_108 rfl ?_
        refine x_imulN dX8_guests_109 ?_
        refine x_topi (y := nI (i * 40)) (by rw [Nat.mul_comm]) ?_
        refine x_iload_n dX8_guests_110 rfl ?_
        refine x_iaddN dX8_guests_111 ?_
        refine x_iconst (v := nI 2) dX8_guests_112 (by decide) ?_
        refine x_iload dX8_guests_113 rfl ?_
        refine x_imulN dX8_guests_115 ?_
        refine x_iaddN dX8_guests_116 ?_
        refine x_istore dX8_guests_117 (by decide) rfl ?_
        refine x_lv (lv' := [some (.ref 1000), some (.int (nI i)), some (.int so), some (.int (nI u)), some (.int (nI n)), some (.int (nI c)), some (.int (nI k)), some (.int (nI (((i * 40) + u) + (2 * k))))]) rfl ?_
        refine x_iload dX8_guests_119 rfl ?_
        refine x_aload_n dX8_guests_121 rfl ?_
        refine x_aload_n dX8_guests_122 rfl ?_
        refine x_rget f_X8_72 hR rfl dX8_guests_123 ?_
        refine x_iload dX8_guests_126 rfl ?_
        refine x_rald (j := 16) (n := ((i * 40) + u) + (2 * k)) hR rfl (by decide) rfl rfl (rlt hR (m := 160) (by decide) rfl (by omega)) dX8_guests_128 ?_
        refine x_topi (y := ((sh i).2.2.getD (u + 2 * k) 0)) (it16 hS hi4 hne (by omega) (by omega)) ?_
        refine x_aload_n dX8_guests_129 rfl ?_
        refine x_rget f_X8_72 hR rfl dX8_guests_130 ?_
        refine x_iload dX8_guests_133 rfl ?_
        refine x_iconst (v := nI 1) dX8_guests_135 (by decide) ?_
        refine x_iaddN dX8_guests_136 ?_
        refine x_rald (j := 16) (n := (((i * 40) + u) + (2 * k)) + 1) hR rfl (by decide) rfl rfl (rlt hR (m := 160) (by decide) rfl (by omega)) dX8_guests_137 ?_
        refine x_topi (y := ((sh i).2.2.getD (u + 2 * k + 1) 0)) (it16 hS hi4 hne (by omega) (by omega)) ?_
        refine x_callV m_X8_guest l_X8_409 (r_guestG hR hC (x := ((sh i).2.2.getD (u + 2 * k) 0)) (y := ((sh i).2.2.getD (u + 2 * k + 1) 0))) rfl hR.2.1 (by omega) rfl rfl (Nat.le_of_ble_eq_true rfl) ⟨Nat.le_refl _, Nat.le_refl _⟩ dX8_guests_138 (fun r4 s4 q4 => ?_)
        obtain ⟨rfl, a4, b4, R4, C4, A4, B4⟩ := q4
        have g4 := gsV_B (x := ((sh i).2.2.getD (u + 2 * k) 0)) (y := ((sh i).2.2.getD (u + 2 * k + 1) 0)) hC.1.2.2.2.1
        refine x_stk (st' := [.int ((gsV P.1 ((sh i).2.2.getD (u + 2 * k) 0) ((sh i).2.2.getD (u + 2 * k + 1) 0))), .int (nI c)]) rfl ?_
        refine x_ifT_lt (p := ((gsV P.1 ((sh i).2.2.getD (u + 2 * k) 0) ((sh i).2.2.getD (u + 2 * k + 1) 0))).toInt) (tgt := 148) rfl dX8_guests_141 (by decide) (fun hv5 => ?_) (fun hv5 => ?_)
        · refine x_iconst (v := nI 0) dX8_guests_148 (by decide) ?_
          refine x_iaddN dX8_guests_149 ?_
          refine x_istore dX8_guests_150 (by decide) rfl ?_
          refine x_lv (lv' := [some (.ref 1000), some (.int (nI i)), some (.int so), some (.int (nI u)), some (.int (nI n)), some (.int (nI (c + 0))), some (.int (nI k)), some (.int (nI (((i * 40) + u) + (2 * k))))]) rfl ?_
          refine x_iincN dX8_guests_152 rfl (by decide) rfl ?_
          refine x_lv (lv' := [some (.ref 1000), some (.int (nI i)), some (.int so), some (.int (nI u)), some (.int (nI n)), some (.int (nI (c + 0))), some (.int (nI (k + 1))), some (.int (nI (((i * 40) + u) + (2 * k))))]) rfl ?_
          refine x_goto (tgt := 75) dX8_guests_155 (by decide) ?_
          have e9 : (gsF (sh i).2.2 (sh i).2.1 u (q + 1) k c P) = (gsF (sh i).2.2 (sh i).2.1 u q (k + 1) (c + 0) (gsP P ((sh i).2.2.getD (u + 2 * k) 0) ((sh i).2.2.getD (u + 2 * k + 1) 0))) := by rw [gsF, if_neg (by omega), if_neg (fun z => by have := g4.mpr z; omega)]
          rw [e9]
          refine x_drop 7 ?_
          exact ih (k + 1) (c + 0) _ a4 b4 s4 (by omega) R4 C4 (hS.fr (B4 13 (by decide) (by decide) (by decide)) (B4 14 (by decide) (by decide) (by decide)) (B4 15 (by decide) (by decide) (by decide)) (B4 16 (by decide) (by decide) (by decide))) (fun j hj => (A4 j hj).trans (hA j hj)) (fun j h3 h4 h5 => (B4 j h3 h4 h5).trans (hB j h3 h4 h5)) (by omega)
        · refine x_iconst (v := nI 1) dX8_guests_144 (by decide) ?_
          refine x_goto (tgt := 149) dX8_guests_145 (by decide) ?_
          refine x_iaddN dX8_guests_149 ?_
          refine x_istore dX8_guests_150 (by decide) rfl ?_
          refine x_lv (lv' := [some (.ref 1000), some (.int (nI i)), some (.int so), some (.int (nI u)), some (.int (nI n)), some (.int (nI (c + 1))), some (.int (nI k)), some (.int (nI (((i * 40) + u) + (2 * k))))]) rfl ?_
          refine x_iincN dX8_guests_152 rfl (by decide) rfl ?_
          refine x_lv (lv' := [some (.ref 1000), some (.int (nI i)), some (.int so), some (.int (nI u)), some (.int (nI n)), some (.int (nI (c + 1))), some (.int (nI (k + 1))), some (.int (nI (((i * 40) + u) + (2 * k))))]) rfl ?_
          refine x_goto (tgt := 75) dX8_guests_155 (by decide) ?_
          have e9 : (gsF (sh i).2.2 (sh i).2.1 u (q + 1) k c P) = (gsF (sh i).2.2 (sh i).2.1 u q (k + 1) (c + 1) (gsP P ((sh i).2.2.getD (u + 2 * k) 0) ((sh i).2.2.getD (u + 2 * k + 1) 0))) := by rw [gsF, if_neg (by omega), if_pos (g4.mp hv5)]
          rw [e9]
          refine x_drop 7 ?_
          exact ih (k + 1) (c + 1) _ a4 b4 s4 (by omega) R4 C4 (hS.fr (B4 13 (by decide) (by decide) (by decide)) (B4 14 (by decide) (by decide) (by decide)) (B4 15 (by decide) (by decide) (by decide)) (B4 16 (by decide) (by decide) (by decide))) (fun j hj => (A4 j hj).trans (hA j hj)) (fun j h3 h4 h5 => (B4 j h3 h4 h5).trans (hB j h3 h4 h5)) (by omega)
      · refine x_bipush (v := (-12)) dX8_guests_103 (by decide) ?_
        exact x_iret ⟨Nat.le_refl _, Nat.le_refl _⟩ rfl dX8_guests_105 ⟨a, b, by rw [gsF, if_pos (by omega)], hR, by rw [gsF, if_pos (by omega)]; exact hC, hA, hB⟩
set_option maxHeartbeats 4000000 in
theorem r_guests {σ0 σ : ZS} {a : Nat → Int32} {tw : Int64} {b : Nat → List Int32} {rr : Nat} {D : List Nat} (hR : RM σ0 σ a tw b) {P : PT4} (hC : RCP a b rr D P) {sh : Nat → SH} (hS : RSH b sh) {i : Nat} (hi4 : i < 4) (hne : ¬ (sh i).1 = -1) (hz40 : (sh i).2.1 ≤ 40) {so : Int32} (hso : 0 ≤ so.toInt ∧ so.toInt ≤ 2) (hsoi : (sh i).1 = so) {u n : Nat} (hu31 : u < 2147483648) (hn7 : n ≤ 7) : Cn 4 M_X8_guests 0 0 [.ref 1000, .int (nI i), .int so, .int (nI u), .int (nI n)] σ (fun r9 σ' => ∃ (a' : Nat → Int32) (b' : Nat → List Int32), r9 = some (.int (gsF (sh i).2.2 (sh i).2.1 u n 0 0 P).1) ∧ RM σ0 σ' a' tw b' ∧ RCP a' b' rr D (gsF (sh i).2.2 (sh i).2.1 u n 0 0 P).2 ∧ (∀ j, j ≠ 13 → a' j = a j) ∧ (∀ j, j ≠ 3 → j ≠ 4 → j ≠ 5 → b' j = b j)) := by
  refine Cn.intro (lv0 := [some (.ref 1000), some (.int (nI i)), some (.int so), some (.int (nI u)), some (.int (nI n)), none, none, none]) rfl (Nat.le_of_ble_eq_true rfl) rfl (fun d hd => ?_)
  refine x_iload_n dX8_guests_0 rfl ?_
  refine x_callS m_X8_isSheet l_X8_299 (r_isSheet (nI_toInt (by omega))) (by omega) rfl rfl (Nat.le_of_ble_eq_true rfl) ⟨Nat.le_refl _, Nat.le_refl _⟩ dX8_guests_1 (fun r1 s1 q1 => ?_)
  obtain ⟨rfl, eq1⟩ := q1
  obtain rfl := eq1.symm
  refine x_stk (st' := [.int (bI (decide (0 ≤ ((i : Nat) : Int) ∧ ((i : Nat) : Int) ≤ 3)))]) rfl ?_
  refine x_ifP_eq (P := 0 ≤ ((i : Nat) : Int) ∧ ((i : Nat) : Int) ≤ 3) inferInstance (tgt := 32) dX8_guests_4 (by decide) (fun hv2 => ?_) (fun hv2 => ?_)
  · exact absurd (by omega) hv2
  · refine x_iload_n dX8_guests_7 rfl ?_
    refine x_i2l dX8_guests_8 ?_
    refine x_lconst (v := 0) dX8_guests_9 (by decide) ?_
    refine x_ldc2 (v := (2)) cl_X8_302 dX8_guests_10 ?_
    refine x_callS m_X8_in l_X8_85 (r_in (p := so.toInt) (q := 0) (r := (2)) (tL rfl) (by decide) (by decide)) (by omega) rfl rfl (Nat.le_of_ble_eq_true rfl) ⟨Nat.le_refl _, Nat.le_refl _⟩ dX8_guests_13 (fun r3 s3 q3 => ?_)
    obtain ⟨rfl, eq3⟩ := q3
    obtain rfl := eq3.symm
    refine x_stk (st' := [.int (bI (decide (0 ≤ so.toInt ∧ so.toInt ≤ (2))))]) rfl ?_
    refine x_ifP_eq (P := 0 ≤ so.toInt ∧ so.toInt ≤ (2)) inferInstance (tgt := 32) dX8_guests_16 (by decide) (fun hv4 => ?_) (fun hv4 => ?_)
    · exact absurd hso hv4
    · refine x_iload dX8_guests_19 rfl ?_
      refine x_i2l dX8_guests_21 ?_
      refine x_lconst (v := 0) dX8_guests_22 (by decide) ?_
      refine x_ldc2 (v := (7)) cl_X8_124 dX8_guests_23 ?_
      refine x_callS m_X8_in l_X8_85 (r_in (p := ((n : Nat) : Int)) (q := 0) (r := (7)) (tL (nI_toInt (by omega))) (by decide) (by decide)) (by omega) rfl rfl (Nat.le_of_ble_eq_true rfl) ⟨Nat.le_refl _, Nat.le_refl _⟩ dX8_guests_26 (fun r5 s5 q5 => ?_)
      obtain ⟨rfl, eq5⟩ := q5
      obtain rfl := eq5.symm
      refine x_stk (st' := [.int (bI (decide (0 ≤ ((n : Nat) : Int) ∧ ((n : Nat) : Int) ≤ (7))))]) rfl ?_
      refine x_ifP_ne (P := 0 ≤ ((n : Nat) : Int) ∧ ((n : Nat) : Int) ≤ (7)) inferInstance (tgt := 35) dX8_guests_29 (by decide) (fun hv6 => ?_) (fun hv6 => ?_)
      · refine x_aload_n dX8_guests_35 rfl ?_
        refine x_rget f_X8_62 hR rfl dX8_guests_36 ?_
        refine x_iload_n dX8_guests_39 rfl ?_
        refine x_rzld (j := 13) (n := i) hR rfl (by decide) rfl rfl (rlt hR (m := 4) (by decide) rfl (by omega)) dX8_guests_40 ?_
        refine x_topi (y := bI (decide (¬ (sh i).1 = -1))) (hS i hi4).1 ?_
        refine x_ifP_eq (P := ¬ (sh i).1 = -1) inferInstance (tgt := 57) dX8_guests_41 (by decide) (fun hv7 => ?_) (fun hv7 => ?_)
        · exact absurd hne hv7
        · refine x_aload_n dX8_guests_44 rfl ?_
          refine x_rget f_X8_66 hR rfl dX8_guests_45 ?_
          refine x_iload_n dX8_guests_48 rfl ?_
          refine x_rald (j := 14) (n := i) hR rfl (by decide) rfl rfl (rlt hR (m := 4) (by decide) rfl (by omega)) dX8_guests_49 ?_
          refine x_topi (y := (sh i).1) ((hS i hi4).2 hne).1 ?_
          refine x_iload_n dX8_guests_50 rfl ?_
          refine x_icmpT_eq (p := ((sh i).1).toInt) (q := so.toInt) (tgt := 57) rfl rfl dX8_guests_51 (by decide) (fun hv8 => ?_) (fun hv8 => ?_)
          · refine x_aload_n dX8_guests_57 rfl ?_
            refine x_rget f_X8_62 hR rfl dX8_guests_58 ?_
            refine x_iload_n dX8_guests_61 rfl ?_
            refine x_rzld (j := 13) (n := i) hR rfl (by decide) rfl rfl (rlt hR (m := 4) (by decide) rfl (by omega)) dX8_guests_62 ?_
            refine x_topi (y := bI (decide (¬ (sh i).1 = -1))) (hS i hi4).1 ?_
            refine x_ifP_ne (P := ¬ (sh i).1 = -1) inferInstance (tgt := 69) dX8_guests_63 (by decide) (fun hv9 => ?_) (fun hv9 => ?_)
            · refine x_iconst (v := nI 0) dX8_guests_69 (by decide) ?_
              refine x_istore dX8_guests_70 (by decide) rfl ?_
              refine x_lv (lv' := [some (.ref 1000), some (.int (nI i)), some (.int so), some (.int (nI u)), some (.int (nI n)), some (.int (nI 0)), none, none]) rfl ?_
              refine x_iconst (v := nI 0) dX8_guests_72 (by decide) ?_
              refine x_istore dX8_guests_73 (by decide) rfl ?_
              refine x_lv (lv' := [some (.ref 1000), some (.int (nI i)), some (.int so), some (.int (nI u)), some (.int (nI n)), some (.int (nI 0)), some (.int (nI 0)), none]) rfl ?_
              exact lr_guests hi4 hne hz40 hu31 hn7 (Nat.le_trans (by decide) hd) n 0 0 P a b σ (Nat.le_refl _) hR hC hS (fun _ _ => rfl) (fun _ _ _ _ => rfl) (by omega)
            · exact absurd hne hv9
          · exact absurd (by rw [hsoi]) hv8
      · exact absurd (by omega) hv6
set_option maxHeartbeats 4000000 in
theorem r_guests_neg {σ0 σ : ZS} {a : Nat → Int32} {tw : Int64} {b : Nat → List Int32} {rr : Nat} {D : List Nat} (hR : RM σ0 σ a tw b) {P : PT4} (hC : RCP a b rr D P) {sh : Nat → SH} (hS : RSH b sh) {i : Nat} (hi4 : i < 4) (hne : ¬ (sh i).1 = -1) (hz40 : (sh i).2.1 ≤ 40) {so : Int32} (hso : 0 ≤ so.toInt ∧ so.toInt ≤ 2) (hsoi : (sh i).1 = so) {u : Int32} (hu : u.toInt < 0) {n : Nat} (hn7 : n ≤ 7) : Cn 4 M_X8_guests 0 0 [.ref 1000, .int (nI i), .int so, .int u, .int (nI n)] σ (fun r9 σ' => r9 = some (.int (if n = 0 then nI 0 else -12)) ∧ σ' = σ) := by
  refine Cn.intro (lv0 := [some (.ref 1000), some (.int (nI i)), some (.int so), some (.int u), some (.int (nI n)), none, none, none]) rfl (Nat.le_of_ble_eq_true rfl) rfl (fun d hd => ?_)
  refine x_iload_n dX8_guests_0 rfl ?_
  refine x_callS m_X8_isSheet l_X8_299 (r_isSheet (nI_toInt (by omega))) (by omega) rfl rfl (Nat.le_of_ble_eq_true rfl) ⟨Nat.le_refl _, Nat.le_refl _⟩ dX8_guests_1 (fun r1 s1 q1 => ?_)
  obtain ⟨rfl, eq1⟩ := q1
  obtain rfl := eq1.symm
  refine x_stk (st' := [.int (bI (decide (0 ≤ ((i : Nat) : Int) ∧ ((i : Nat) : Int) ≤ 3)))]) rfl ?_
  refine x_ifP_eq (P := 0 ≤ ((i : Nat) : Int) ∧ ((i : Nat) : Int) ≤ 3) inferInstance (tgt := 32) dX8_guests_4 (by decide) (fun hv2 => ?_) (fun hv2 => ?_)
  · exact absurd (by omega) hv2
  · refine x_iload_n dX8_guests_7 rfl ?_
    refine x_i2l dX8_guests_8 ?_
    refine x_lconst (v := 0) dX8_guests_9 (by decide) ?_
    refine x_ldc2 (v := (2)) cl_X8_302 dX8_guests_10 ?_
    refine x_callS m_X8_in l_X8_85 (r_in (p := so.toInt) (q := 0) (r := (2)) (tL rfl) (by decide) (by decide)) (by omega) rfl rfl (Nat.le_of_ble_eq_true rfl) ⟨Nat.le_refl _, Nat.le_refl _⟩ dX8_guests_13 (fun r3 s3 q3 => ?_)
    obtain ⟨rfl, eq3⟩ := q3
    obtain rfl := eq3.symm
    refine x_stk (st' := [.int (bI (decide (0 ≤ so.toInt ∧ so.toInt ≤ (2))))]) rfl ?_
    refine x_ifP_eq (P := 0 ≤ so.toInt ∧ so.toInt ≤ (2)) inferInstance (tgt := 32) dX8_guests_16 (by decide) (fun hv4 => ?_) (fun hv4 => ?_)
    · exact absurd hso hv4
    · refine x_iload dX8_guests_19 rfl ?_
      refine x_i2l dX8_guests_21 ?_
      refine x_lconst (v := 0) dX8_guests_22 (by decide) ?_
      refine x_ldc2 (v := (7)) cl_X8_124 dX8_guests_23 ?_
      refine x_callS m_X8_in l_X8_85 (r_in (p := ((n : Nat) : Int)) (q := 0) (r := (7)) (tL (nI_toInt (by omega))) (by decide) (by decide)) (by omega) rfl rfl (Nat.le_of_ble_eq_true rfl) ⟨Nat.le_refl _, Nat.le_refl _⟩ dX8_guests_26 (fun r5 s5 q5 => ?_)
      obtain ⟨rfl, eq5⟩ := q5
      obtain rfl := eq5.symm
      refine x_stk (st' := [.int (bI (decide (0 ≤ ((n : Nat) : Int) ∧ ((n : Nat) : Int) ≤ (7))))]) rfl ?_
      refine x_ifP_ne (P := 0 ≤ ((n : Nat) : Int) ∧ ((n : Nat) : Int) ≤ (7)) inferInstance (tgt := 35) dX8_guests_29 (by decide) (fun hv6 => ?_) (fun hv6 => ?_)
      · refine x_aload_n dX8_guests_35 rfl ?_
        refine x_rget f_X8_62 hR rfl dX8_guests_36 ?_
        refine x_iload_n dX8_guests_39 rfl ?_
        refine x_rzld (j := 13) (n := i) hR rfl (by decide) rfl rfl (rlt hR (m := 4) (by decide) rfl (by omega)) dX8_guests_40 ?_
        refine x_topi (y := bI (decide (¬ (sh i).1 = -1))) (hS i hi4).1 ?_
        refine x_ifP_eq (P := ¬ (sh i).1 = -1) inferInstance (tgt := 57) dX8_guests_41 (by decide) (fun hv7 => ?_) (fun hv7 => ?_)
        · exact absurd hne hv7
        · refine x_aload_n dX8_guests_44 rfl ?_
          refine x_rget f_X8_66 hR rfl dX8_guests_45 ?_
          refine x_iload_n dX8_guests_48 rfl ?_
          refine x_rald (j := 14) (n := i) hR rfl (by decide) rfl rfl (rlt hR (m := 4) (by decide) rfl (by omega)) dX8_guests_49 ?_
          refine x_topi (y := (sh i).1) ((hS i hi4).2 hne).1 ?_
          refine x_iload_n dX8_guests_50 rfl ?_
          refine x_icmpT_eq (p := ((sh i).1).toInt) (q := so.toInt) (tgt := 57) rfl rfl dX8_guests_51 (by decide) (fun hv8 => ?_) (fun hv8 => ?_)
          · refine x_aload_n dX8_guests_57 rfl ?_
            refine x_rget f_X8_62 hR rfl dX8_guests_58 ?_
            refine x_iload_n dX8_guests_61 rfl ?_
            refine x_rzld (j := 13) (n := i) hR rfl (by decide) rfl rfl (rlt hR (m := 4) (by decide) rfl (by omega)) dX8_guests_62 ?_
            refine x_topi (y := bI (decide (¬ (sh i).1 = -1))) (hS i hi4).1 ?_
            refine x_ifP_ne (P := ¬ (sh i).1 = -1) inferInstance (tgt := 69) dX8_guests_63 (by decide) (fun hv9 => ?_) (fun hv9 => ?_)
            · refine x_iconst (v := nI 0) dX8_guests_69 (by decide) ?_
              refine x_istore dX8_guests_70 (by decide) rfl ?_
              refine x_lv (lv' := [some (.ref 1000), some (.int (nI i)), some (.int so), some (.int u), some (.int (nI n)), some (.int (nI 0)), none, none]) rfl ?_
              refine x_iconst (v := nI 0) dX8_guests_72 (by decide) ?_
              refine x_istore dX8_guests_73 (by decide) rfl ?_
              refine x_lv (lv' := [some (.ref 1000), some (.int (nI i)), some (.int so), some (.int u), some (.int (nI n)), some (.int (nI 0)), some (.int (nI 0)), none]) rfl ?_
              refine x_iload dX8_guests_75 rfl ?_
              refine x_iload dX8_guests_77 rfl ?_
              refine x_icmpN_ge (tgt := 158) dX8_guests_79 (by decide) (by omega) (by omega) (fun hv10 => ?_) (fun hv10 => ?_)
              · refine x_iload dX8_guests_158 rfl ?_
                exact x_iret ⟨Nat.le_refl _, Nat.le_refl _⟩ rfl dX8_guests_160 ⟨by rw [if_pos (by omega)], rfl⟩
              · refine x_iload_n dX8_guests_82 rfl ?_
                refine x_ifT_lt (p := u.toInt) (tgt := 103) rfl dX8_guests_83 (by decide) (fun hv11 => ?_) (fun hv11 => ?_)
                · refine x_bipush (v := (-12)) dX8_guests_103 (by decide) ?_
                  exact x_iret ⟨Nat.le_refl _, Nat.le_refl _⟩ rfl dX8_guests_105 ⟨by rw [if_neg (by omega)], rfl⟩
                · exact absurd hv11 (by omega)
            · exact absurd hne hv9
          · exact absurd (by rw [hsoi]) hv8
      · exact absurd (by omega) hv6
set_option maxHeartbeats 4000000 in
theorem r_guests_b1 {σ0 σ : ZS} {a : Nat → Int32} {tw : Int64} {b : Nat → List Int32} (hR : RM σ0 σ a tw b) {x so u n : Int32} (hb : ¬ (0 ≤ x.toInt ∧ x.toInt ≤ 3) ∨ ¬ (0 ≤ so.toInt ∧ so.toInt ≤ 2) ∨ ¬ (0 ≤ n.toInt ∧ n.toInt ≤ 7)) : Cn 4 M_X8_guests 0 0 [.ref 1000, .int x, .int so, .int u, .int n] σ (fun r9 σ' => r9 = some (.int (-2)) ∧ σ' = σ) := by
  refine Cn.intro (lv0 := [some (.ref 1000), some (.int x), some (.int so), some (.int u), some (.int n), none, none, none]) rfl (Nat.le_of_ble_eq_true rfl) rfl (fun d hd => ?_)
  refine x_iload_n dX8_guests_0 rfl ?_
  refine x_callS m_X8_isSheet l_X8_299 (r_isSheet rfl) (by omega) rfl rfl (Nat.le_of_ble_eq_true rfl) ⟨Nat.le_refl _, Nat.le_refl _⟩ dX8_guests_1 (fun r1 s1 q1 => ?_)
  obtain ⟨rfl, eq1⟩ := q1
  obtain rfl := eq1.symm
  refine x_stk (st' := [.int (bI (decide (0 ≤ x.toInt ∧ x.toInt ≤ 3)))]) rfl ?_
  refine x_ifP_eq (P := 0 ≤ x.toInt ∧ x.toInt ≤ 3) inferInstance (tgt := 32) dX8_guests_4 (by decide) (fun hv2 => ?_) (fun hv2 => ?_)
  · refine x_bipush (v := (-2)) dX8_guests_32 (by decide) ?_
    exact x_iret ⟨Nat.le_refl _, Nat.le_refl _⟩ rfl dX8_guests_34 ⟨rfl, rfl⟩
  · refine x_iload_n dX8_guests_7 rfl ?_
    refine x_i2l dX8_guests_8 ?_
    refine x_lconst (v := 0) dX8_guests_9 (by decide) ?_
    refine x_ldc2 (v := (2)) cl_X8_302 dX8_guests_10 ?_
    refine x_callS m_X8_in l_X8_85 (r_in (p := so.toInt) (q := 0) (r := (2)) (tL rfl) (by decide) (by decide)) (by omega) rfl rfl (Nat.le_of_ble_eq_true rfl) ⟨Nat.le_refl _, Nat.le_refl _⟩ dX8_guests_13 (fun r3 s3 q3 => ?_)
    obtain ⟨rfl, eq3⟩ := q3
    obtain rfl := eq3.symm
    refine x_stk (st' := [.int (bI (decide (0 ≤ so.toInt ∧ so.toInt ≤ (2))))]) rfl ?_
    refine x_ifP_eq (P := 0 ≤ so.toInt ∧ so.toInt ≤ (2)) inferInstance (tgt := 32) dX8_guests_16 (by decide) (fun hv4 => ?_) (fun hv4 => ?_)
    · refine x_bipush (v := (-2)) dX8_guests_32 (by decide) ?_
      exact x_iret ⟨Nat.le_refl _, Nat.le_refl _⟩ rfl dX8_guests_34 ⟨rfl, rfl⟩
    · refine x_iload dX8_guests_19 rfl ?_
      refine x_i2l dX8_guests_21 ?_
      refine x_lconst (v := 0) dX8_guests_22 (by decide) ?_
      refine x_ldc2 (v := (7)) cl_X8_124 dX8_guests_23 ?_
      refine x_callS m_X8_in l_X8_85 (r_in (p := n.toInt) (q := 0) (r := (7)) (tL rfl) (by decide) (by decide)) (by omega) rfl rfl (Nat.le_of_ble_eq_true rfl) ⟨Nat.le_refl _, Nat.le_refl _⟩ dX8_guests_26 (fun r5 s5 q5 => ?_)
      obtain ⟨rfl, eq5⟩ := q5
      obtain rfl := eq5.symm
      refine x_stk (st' := [.int (bI (decide (0 ≤ n.toInt ∧ n.toInt ≤ (7))))]) rfl ?_
      refine x_ifP_ne (P := 0 ≤ n.toInt ∧ n.toInt ≤ (7)) inferInstance (tgt := 35) dX8_guests_29 (by decide) (fun hv6 => ?_) (fun hv6 => ?_)
      · exfalso; omega
      · refine x_bipush (v := (-2)) dX8_guests_32 (by decide) ?_
        exact x_iret ⟨Nat.le_refl _, Nat.le_refl _⟩ rfl dX8_guests_34 ⟨rfl, rfl⟩
set_option maxHeartbeats 4000000 in
theorem r_guests_b2 {σ0 σ : ZS} {a : Nat → Int32} {tw : Int64} {b : Nat → List Int32} {rr : Nat} {D : List Nat} (hR : RM σ0 σ a tw b) {P : PT4} (hC : RCP a b rr D P) {sh : Nat → SH} (hS : RSH b sh) {i : Nat} (hi4 : i < 4) (hne : ¬ (sh i).1 = -1) {so : Int32} (hso : 0 ≤ so.toInt ∧ so.toInt ≤ 2) (hsoi : ¬ (sh i).1 = so) {u n : Int32} (hn : 0 ≤ n.toInt ∧ n.toInt ≤ 7) : Cn 4 M_X8_guests 0 0 [.ref 1000, .int (nI i), .int so, .int u, .int n] σ (fun r9 σ' => r9 = some (.int (-13)) ∧ σ' = σ) := by
  refine Cn.intro (lv0 := [some (.ref 1000), some (.int (nI i)), some (.int so), some (.int u), some (.int n), none, none, none]) rfl (Nat.le_of_ble_eq_true rfl) rfl (fun d hd => ?_)
  refine x_iload_n dX8_guests_0 rfl ?_
  refine x_callS m_X8_isSheet l_X8_299 (r_isSheet (nI_toInt (by omega))) (by omega) rfl rfl (Nat.le_of_ble_eq_true rfl) ⟨Nat.le_refl _, Nat.le_refl _⟩ dX8_guests_1 (fun r1 s1 q1 => ?_)
  obtain ⟨rfl, eq1⟩ := q1
  obtain rfl := eq1.symm
  refine x_stk (st' := [.int (bI (decide (0 ≤ ((i : Nat) : Int) ∧ ((i : Nat) : Int) ≤ 3)))]) rfl ?_
  refine x_ifP_eq (P := 0 ≤ ((i : Nat) : Int) ∧ ((i : Nat) : Int) ≤ 3) inferInstance (tgt := 32) dX8_guests_4 (by decide) (fun hv2 => ?_) (fun hv2 => ?_)
  · exact absurd (by omega) hv2
  · refine x_iload_n dX8_guests_7 rfl ?_
    refine x_i2l dX8_guests_8 ?_
    refine x_lconst (v := 0) dX8_guests_9 (by decide) ?_
    refine x_ldc2 (v := (2)) cl_X8_302 dX8_guests_10 ?_
    refine x_callS m_X8_in l_X8_85 (r_in (p := so.toInt) (q := 0) (r := (2)) (tL rfl) (by decide) (by decide)) (by omega) rfl rfl (Nat.le_of_ble_eq_true rfl) ⟨Nat.le_refl _, Nat.le_refl _⟩ dX8_guests_13 (fun r3 s3 q3 => ?_)
    obtain ⟨rfl, eq3⟩ := q3
    obtain rfl := eq3.symm
    refine x_stk (st' := [.int (bI (decide (0 ≤ so.toInt ∧ so.toInt ≤ (2))))]) rfl ?_
    refine x_ifP_eq (P := 0 ≤ so.toInt ∧ so.toInt ≤ (2)) inferInstance (tgt := 32) dX8_guests_16 (by decide) (fun hv4 => ?_) (fun hv4 => ?_)
    · exact absurd hso hv4
    · refine x_iload dX8_guests_19 rfl ?_
      refine x_i2l dX8_guests_21 ?_
      refine x_lconst (v := 0) dX8_guests_22 (by decide) ?_
      refine x_ldc2 (v := (7)) cl_X8_124 dX8_guests_23 ?_
      refine x_callS m_X8_in l_X8_85 (r_in (p := n.toInt) (q := 0) (r := (7)) (tL rfl) (by decide) (by decide)) (by omega) rfl rfl (Nat.le_of_ble_eq_true rfl) ⟨Nat.le_refl _, Nat.le_refl _⟩ dX8_guests_26 (fun r5 s5 q5 => ?_)
      obtain ⟨rfl, eq5⟩ := q5
      obtain rfl := eq5.symm
      refine x_stk (st' := [.int (bI (decide (0 ≤ n.toInt ∧ n.toInt ≤ (7))))]) rfl ?_
      refine x_ifP_ne (P := 0 ≤ n.toInt ∧ n.toInt ≤ (7)) inferInstance (tgt := 35) dX8_guests_29 (by decide) (fun hv6 => ?_) (fun hv6 => ?_)
      · refine x_aload_n dX8_guests_35 rfl ?_
        refine x_rget f_X8_62 hR rfl dX8_guests_36 ?_
        refine x_iload_n dX8_guests_39 rfl ?_
        refine x_rzld (j := 13) (n := i) hR rfl (by decide) rfl rfl (rlt hR (m := 4) (by decide) rfl (by omega)) dX8_guests_40 ?_
        refine x_topi (y := bI (decide (¬ (sh i).1 = -1))) (hS i hi4).1 ?_
        refine x_ifP_eq (P := ¬ (sh i).1 = -1) inferInstance (tgt := 57) dX8_guests_41 (by decide) (fun hv7 => ?_) (fun hv7 => ?_)
        · exact absurd hne hv7
        · refine x_aload_n dX8_guests_44 rfl ?_
          refine x_rget f_X8_66 hR rfl dX8_guests_45 ?_
          refine x_iload_n dX8_guests_48 rfl ?_
          refine x_rald (j := 14) (n := i) hR rfl (by decide) rfl rfl (rlt hR (m := 4) (by decide) rfl (by omega)) dX8_guests_49 ?_
          refine x_topi (y := (sh i).1) ((hS i hi4).2 hne).1 ?_
          refine x_iload_n dX8_guests_50 rfl ?_
          refine x_icmpT_eq (p := ((sh i).1).toInt) (q := so.toInt) (tgt := 57) rfl rfl dX8_guests_51 (by decide) (fun hv8 => ?_) (fun hv8 => ?_)
          · exact absurd (Int32.toInt_inj.mp hv8) hsoi
          · refine x_bipush (v := (-13)) dX8_guests_54 (by decide) ?_
            exact x_iret ⟨Nat.le_refl _, Nat.le_refl _⟩ rfl dX8_guests_56 ⟨rfl, rfl⟩
      · exact absurd hn hv6
set_option maxHeartbeats 4000000 in
theorem r_guests_b3 {σ0 σ : ZS} {a : Nat → Int32} {tw : Int64} {b : Nat → List Int32} {rr : Nat} {D : List Nat} (hR : RM σ0 σ a tw b) {P : PT4} (hC : RCP a b rr D P) {sh : Nat → SH} (hS : RSH b sh) {i : Nat} (hi4 : i < 4) (hb : (sh i).1 = -1) {so : Int32} (hso : 0 ≤ so.toInt ∧ so.toInt ≤ 2) {u n : Int32} (hn : 0 ≤ n.toInt ∧ n.toInt ≤ 7) : Cn 4 M_X8_guests 0 0 [.ref 1000, .int (nI i), .int so, .int u, .int n] σ (fun r9 σ' => r9 = some (.int (-11)) ∧ σ' = σ) := by
  refine Cn.intro (lv0 := [some (.ref 1000), some (.int (nI i)), some (.int so), some (.int u), some (.int n), none, none, none]) rfl (Nat.le_of_ble_eq_true rfl) rfl (fun d hd => ?_)
  refine x_iload_n dX8_guests_0 rfl ?_
  refine x_callS m_X8_isSheet l_X8_299 (r_isSheet (nI_toInt (by omega))) (by omega) rfl rfl (Nat.le_of_ble_eq_true rfl) ⟨Nat.le_refl _, Nat.le_refl _⟩ dX8_guests_1 (fun r1 s1 q1 => ?_)
  obtain ⟨rfl, eq1⟩ := q1
  obtain rfl := eq1.symm
  refine x_stk (st' := [.int (bI (decide (0 ≤ ((i : Nat) : Int) ∧ ((i : Nat) : Int) ≤ 3)))]) rfl ?_
  refine x_ifP_eq (P := 0 ≤ ((i : Nat) : Int) ∧ ((i : Nat) : Int) ≤ 3) inferInstance (tgt := 32) dX8_guests_4 (by decide) (fun hv2 => ?_) (fun hv2 => ?_)
  · exact absurd (by omega) hv2
  · refine x_iload_n dX8_guests_7 rfl ?_
    refine x_i2l dX8_guests_8 ?_
    refine x_lconst (v := 0) dX8_guests_9 (by decide) ?_
    refine x_ldc2 (v := (2)) cl_X8_302 dX8_guests_10 ?_
    refine x_callS m_X8_in l_X8_85 (r_in (p := so.toInt) (q := 0) (r := (2)) (tL rfl) (by decide) (by decide)) (by omega) rfl rfl (Nat.le_of_ble_eq_true rfl) ⟨Nat.le_refl _, Nat.le_refl _⟩ dX8_guests_13 (fun r3 s3 q3 => ?_)
    obtain ⟨rfl, eq3⟩ := q3
    obtain rfl := eq3.symm
    refine x_stk (st' := [.int (bI (decide (0 ≤ so.toInt ∧ so.toInt ≤ (2))))]) rfl ?_
    refine x_ifP_eq (P := 0 ≤ so.toInt ∧ so.toInt ≤ (2)) inferInstance (tgt := 32) dX8_guests_16 (by decide) (fun hv4 => ?_) (fun hv4 => ?_)
    · exact absurd hso hv4
    · refine x_iload dX8_guests_19 rfl ?_
      refine x_i2l dX8_guests_21 ?_
      refine x_lconst (v := 0) dX8_guests_22 (by decide) ?_
      refine x_ldc2 (v := (7)) cl_X8_124 dX8_guests_23 ?_
      refine x_callS m_X8_in l_X8_85 (r_in (p := n.toInt) (q := 0) (r := (7)) (tL rfl) (by decide) (by decide)) (by omega) rfl rfl (Nat.le_of_ble_eq_true rfl) ⟨Nat.le_refl _, Nat.le_refl _⟩ dX8_guests_26 (fun r5 s5 q5 => ?_)
      obtain ⟨rfl, eq5⟩ := q5
      obtain rfl := eq5.symm
      refine x_stk (st' := [.int (bI (decide (0 ≤ n.toInt ∧ n.toInt ≤ (7))))]) rfl ?_
      refine x_ifP_ne (P := 0 ≤ n.toInt ∧ n.toInt ≤ (7)) inferInstance (tgt := 35) dX8_guests_29 (by decide) (fun hv6 => ?_) (fun hv6 => ?_)
      · refine x_aload_n dX8_guests_35 rfl ?_
        refine x_rget f_X8_62 hR rfl dX8_guests_36 ?_
        refine x_iload_n dX8_guests_39 rfl ?_
        refine x_rzld (j := 13) (n := i) hR rfl (by decide) rfl rfl (rlt hR (m := 4) (by decide) rfl (by omega)) dX8_guests_40 ?_
        refine x_topi (y := bI (decide (¬ (sh i).1 = -1))) (hS i hi4).1 ?_
        refine x_ifP_eq (P := ¬ (sh i).1 = -1) inferInstance (tgt := 57) dX8_guests_41 (by decide) (fun hv7 => ?_) (fun hv7 => ?_)
        · refine x_aload_n dX8_guests_57 rfl ?_
          refine x_rget f_X8_62 hR rfl dX8_guests_58 ?_
          refine x_iload_n dX8_guests_61 rfl ?_
          refine x_rzld (j := 13) (n := i) hR rfl (by decide) rfl rfl (rlt hR (m := 4) (by decide) rfl (by omega)) dX8_guests_62 ?_
          refine x_topi (y := bI (decide (¬ (sh i).1 = -1))) (hS i hi4).1 ?_
          refine x_ifP_ne (P := ¬ (sh i).1 = -1) inferInstance (tgt := 69) dX8_guests_63 (by decide) (fun hv8 => ?_) (fun hv8 => ?_)
          · exact absurd hb hv8
          · refine x_bipush (v := (-11)) dX8_guests_66 (by decide) ?_
            exact x_iret ⟨Nat.le_refl _, Nat.le_refl _⟩ rfl dX8_guests_68 ⟨rfl, rfl⟩
        · exact absurd hb hv7
      · exact absurd hn hv6
