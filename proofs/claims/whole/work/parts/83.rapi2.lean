/-! how little to borrow; the largest company; dinners -/
def ndN (D : List Nat) (one other : Nat) : Nat → Nat
  | 0 => 1
  | k + 1 => if k ≠ one ∧ k ≠ other then max (ndN D one other k) (D.getD (one * 7 + k) 0 + (if k < other then 1 else 0)) else ndN D one other k
theorem ndN_ge {D : List Nat} {one other : Nat} : ∀ {n v : Nat}, ndN D one other n ≤ v ↔ 1 ≤ v ∧ ∀ k, k < n → k ≠ one → k ≠ other → D.getD (one * 7 + k) 0 + (if k < other then 1 else 0) ≤ v
  | 0, v => ⟨fun h => ⟨h, fun k hk => absurd hk (by omega)⟩, fun h => h.1⟩
  | n + 1, v => by
    rw [ndN]
    have ih := ndN_ge (D := D) (one := one) (other := other) (n := n) (v := v)
    by_cases c : n ≠ one ∧ n ≠ other
    · rw [if_pos c, Nat.max_le, ih]
      constructor
      · rintro ⟨⟨h1, h2⟩, h3⟩
        refine ⟨h1, fun k hk a b => ?_⟩
        by_cases e : k = n
        · rw [e]; exact h3
        · exact h2 k (by omega) a b
      · rintro ⟨h1, h2⟩
        exact ⟨⟨h1, fun k hk => h2 k (by omega)⟩, h2 n (by omega) c.1 c.2⟩
    · rw [if_neg c, ih]
      constructor
      · rintro ⟨h1, h2⟩
        refine ⟨h1, fun k hk a b => ?_⟩
        by_cases e : k = n
        · exact absurd ⟨e ▸ a, e ▸ b⟩ c
        · exact h2 k (by omega) a b
      · rintro ⟨h1, h2⟩
        exact ⟨h1, fun k hk => h2 k (by omega)⟩
/-- the creditor is the first who is owed most -/
theorem credF_iff {D : List Nat} {p S : Nat} : ∀ {n c : Nat}, (credF D p S n).1 = some c ↔ c < n ∧ S.testBit c = true ∧ 0 < D.getD (p * 7 + c) 0 ∧ ∀ k, k < n → S.testBit k = true → D.getD (p * 7 + k) 0 + (if k < c then 1 else 0) ≤ D.getD (p * 7 + c) 0
  | 0, c => ⟨fun h => (by cases h), fun h => absurd h.1 (by omega)⟩
  | n + 1, c => by
    have ih := fun c => credF_iff (D := D) (p := p) (S := S) (n := n) (c := c)
    have ok := credF_ok D p S n
    rw [credF]
    by_cases h : S.testBit n = true ∧ (credF D p S n).2 < D.getD (p * 7 + n) 0
    · rw [if_pos h]
      have all : ∀ k, k < n → S.testBit k = true → D.getD (p * 7 + k) 0 ≤ (credF D p S n).2 := by
        intro k hk hb
        cases hc : (credF D p S n).1 with
        | some c' =>
          have h1 := ((ih c').mp hc).2.2.2 k hk hb
          have h2 := ok.1
          rw [hc] at h2
          simp only at h2
          omega
        | none =>
          have key : ∀ m, m ≤ n → (credF D p S m).1 = none → ∀ k, k < m → S.testBit k = true → D.getD (p * 7 + k) 0 = 0 := by
            intro m
            induction m with
            | zero => intro _ _ k hk; exact absurd hk (by omega)
            | succ m ihm =>
              intro hm hn k hk hb
              rw [credF] at hn
              split at hn
              · cases hn
              · rename_i hno
                by_cases e : k = m
                · subst e
                  have := (credF_ok D p S k).1
                  rw [hn] at this
                  simp only at this
                  have h9 : ¬ ((credF D p S k).2 < D.getD (p * 7 + k) 0) := fun q => hno ⟨hb, q⟩
                  omega
                · exact ihm (by omega) hn k (by omega) hb
          have := key n (Nat.le_refl _) hc k hk hb
          omega
      constructor
      · intro e
        cases e
        refine ⟨by omega, h.1, by omega, fun k hk hb => ?_⟩
        by_cases e : k = n
        · rw [e, if_neg (by omega)]; omega
        · have := all k (by omega) hb
          rw [if_pos (by omega)]; omega
      · rintro ⟨h1, h2, h3, h4⟩
        by_cases e : c = n
        · rw [e]
        · exfalso
          have a1 := h4 n (by omega) h.1
          rw [if_neg (by omega)] at a1
          have a2 := all c (by omega) h2
          omega
    · rw [if_neg h, ih c]
      constructor
      · rintro ⟨h1, h2, h3, h4⟩
        refine ⟨by omega, h2, h3, fun k hk hb => ?_⟩
        by_cases e : k = n
        · subst e
          have h5 : (credF D p S k).1 = some c := (ih c).mpr ⟨h1, h2, h3, h4⟩
          have h6 := ok.1
          rw [h5] at h6
          simp only at h6
          have h7 : ¬ ((credF D p S k).2 < D.getD (p * 7 + k) 0) := fun q => h ⟨hb, q⟩
          rw [if_neg (by omega)]
          omega
        · exact h4 k (by omega) hb
      · rintro ⟨h1, h2, h3, h4⟩
        by_cases e : c = n
        · exfalso
          subst e
          apply h
          refine ⟨h2, ?_⟩
          cases hc : (credF D p S c).1 with
          | none => rw [ok.1, hc]; exact h3
          | some c' =>
            have h5 := (ih c').mp hc
            have h6 := h4 c' (by omega) h5.2.1
            rw [if_pos h5.1] at h6
            rw [ok.1, hc]
            simp only
            omega
        · exact ⟨by omega, h2, h3, fun k hk => h4 k (by omega)⟩
theorem cred_set {D : List Nat} {n one other v : Nat} (hn : n ≤ 7) (h1 : one < n) (h2 : other < n) (h12 : one ≠ other) (hl : D.length = 49) (hg : Dg D) : cred (D.set (one * 7 + other) v) n one (2 ^ n - 1) = some other ↔ ndN D one other n ≤ v := by
  have hb : ∀ k, k < n → (2 ^ n - 1).testBit k = true := fun k hk => by rw [Nat.testBit_two_pow_sub_one]; exact decide_eq_true hk
  have g : ∀ k, k < n → (D.set (one * 7 + other) v).getD (one * 7 + k) 0 = if k = other then v else D.getD (one * 7 + k) 0 := by
    intro k hk
    rw [getD_set]
    by_cases e : k = other
    · rw [if_pos e, if_pos ⟨by omega, by omega⟩]
    · rw [if_neg e, if_neg (fun q => e (by omega))]
  rw [cred, credF_iff, ndN_ge]
  constructor
  · rintro ⟨-, -, a3, a4⟩
    rw [g other h2, if_pos rfl] at a3 a4
    refine ⟨a3, fun k hk b1 b2 => ?_⟩
    have := a4 k hk (hb k hk)
    rw [g k hk, if_neg b2] at this
    exact this
  · rintro ⟨a1, a2⟩
    rw [g other h2, if_pos rfl]
    refine ⟨h2, hb other h2, a1, fun k hk _ => ?_⟩
    rw [g k hk]
    by_cases e : k = other
    · rw [if_pos e, if_neg (by omega)]; omega
    · rw [if_neg e]
      by_cases e1 : k = one
      · have := hg one (by omega)
        rw [e1, this]
        split <;> omega
      · exact a2 k hk e1 e
theorem two_le {n : Nat} (h : n ≤ 7) : 2 ^ n ≤ 128 := Nat.pow_le_pow_right (n := 2) (j := 7) (by decide) h
def brV (D : List Nat) (n one other : Nat) : Int32 := if 999 < ndN D one other n then -1 else nI (ndN D one other n - D.getD (one * 7 + other) 0)
theorem ndN_le {D : List Nat} (hD : ∀ k, D.getD k 0 ≤ 999) {one other : Nat} : ∀ n, ndN D one other n ≤ 1000
  | 0 => by rw [ndN]; decide
  | n + 1 => by
    have h1 := ndN_le hD (one := one) (other := other) n
    have h2 := hD (one * 7 + n)
    rw [ndN]
    split
    · have : (if n < other then 1 else 0) ≤ 1 := by split <;> omega
      omega
    · exact h1
theorem set_set {D : List Nat} {q u v : Nat} : (D.set q u).set q v = D.set q v := List.set_set ..
theorem set_self {D : List Nat} {q : Nat} (h : q < D.length) : D.set q (D.getD q 0) = D := by
  refine List.ext_getElem? (fun j => ?_)
  by_cases hj : j = q
  · subst hj
    rw [List.getElem?_set_self h, List.getD_eq_getElem?_getD, List.getElem?_eq_getElem h]
    rfl
  · rw [List.getElem?_set_ne (fun z => hj z.symm)]
set_option maxHeartbeats 4000000 in
theorem lr_borrow {σ0 : ZS} {a : Nat → Int32} {tw : Int64} {b0 : Nat → List Int32} {rr n : Nat} {K N : List Nat} {W : List Int32} {D : List Nat} {fr : Int32} (hC : RC a b0 rr n K N W D fr) (hg : Dg D) {one other : Nat} (h1 : one < n) (h2 : other < n) (h12 : one ≠ other) {d : Nat} (hd : 1 ≤ d) : ∀ (q k : Nat) (u : Nat) (b : Nat → List Int32) (σ : ZS) (hR : RM σ0 σ a tw b) (hB : Fb 6 b0 b) (h6 : b 6 = (D.set (one * 7 + other) u).map nI) (hu : u ≤ 999) (hv : k = D.getD (one * 7 + other) 0 ∨ k ≤ ndN D one other n) (hv2 : D.getD (one * 7 + other) 0 ≤ k), k + q = 1000 → X M_X8_borrow d 0 0 (fun r9 σ' => ∃ b' : Nat → List Int32, r9 = some (.int (brV D n one other)) ∧ RM σ0 σ' a tw b' ∧ (∀ j, b' j = b0 j)) 0 0 34 [some (.ref 1000), some (.int (nI one)), some (.int (nI other)), some (.int (nI (one * 7 + other))), some (.int (nI ((D.getD (one * 7 + other) 0)))), some (.int ((-1))), some (.int (nI k))] [] σ := by
  obtain ⟨c7, hrr, c13, hn7, c14, cK, cN, cW, cD, hN7, hW7, hD49, hK5, hN9, hD999⟩ := id hC
  have hd9 := hD999 (one * 7 + other)
  have hnd := ndN_le hD999 (one := one) (other := other) n
  intro q
  induction q with
  | zero =>
    intro k u b σ hR hB h6 hu hv hv2 hk
    refine x_iload dX8_borrow_34 rfl ?_
    refine x_sipush (v := nI 999) dX8_borrow_36 (by decide) ?_
    refine x_icmpN_gt (tgt := 86) dX8_borrow_39 (by decide) (by omega) (by omega) (fun hv1 => ?_) (fun hv1 => ?_)
    · refine x_aload_n dX8_borrow_86 rfl ?_
      refine x_rget f_X8_35 hR rfl dX8_borrow_87 ?_
      refine x_iload_n dX8_borrow_90 rfl ?_
      refine x_iload dX8_borrow_91 rfl ?_
      refine x_rast (j := 6) (n := one * 7 + other) hR rfl (by decide) rfl rfl (rlt hR (m := 49) (by decide) rfl (by omega)) dX8_borrow_93 (fun sw2 Rw2 => ?_)
      refine x_iload dX8_borrow_94 rfl ?_
      exact x_iret ⟨Nat.le_refl _, Nat.le_refl _⟩ rfl dX8_borrow_96 ⟨_, (by rw [brV, if_pos (by omega)]), Rw2, fun j => by
  by_cases e : j = 6
  · rw [e]; show (((b 6)).set (one * 7 + other) (nI (D.getD (one * 7 + other) 0))) = b0 6
    rw [h6, gm_set, set_set, set_self (by omega), cD]
  · rw [up_ne _ _ e, hB j e]⟩
    · exact absurd hv1 (by omega)
  | succ q ih =>
    intro k u b σ hR hB h6 hu hv hv2 hk
    refine x_iload dX8_borrow_34 rfl ?_
    refine x_sipush (v := nI 999) dX8_borrow_36 (by decide) ?_
    refine x_icmpN_gt (tgt := 86) dX8_borrow_39 (by decide) (by omega) (by omega) (fun hv1 => ?_) (fun hv1 => ?_)
    · exact absurd hv1 (by omega)
    · refine x_iload dX8_borrow_42 rfl ?_
      refine x_iconst (v := (-1)) dX8_borrow_44 (by decide) ?_
      refine x_icmpT_ne (p := (-1)) (q := (-1)) (tgt := 86) (by decide) (by decide) dX8_borrow_45 (by decide) (fun hv2 => ?_) (fun hv2 => ?_)
      · exact absurd rfl hv2
      · refine x_aload_n dX8_borrow_48 rfl ?_
        refine x_rget f_X8_35 hR rfl dX8_borrow_49 ?_
        refine x_iload_n dX8_borrow_52 rfl ?_
        refine x_iload dX8_borrow_53 rfl ?_
        refine x_rast (j := 6) (n := one * 7 + other) hR rfl (by decide) rfl rfl (rlt hR (m := 49) (by decide) rfl (by omega)) dX8_borrow_55 (fun sw3 Rw3 => ?_)
        refine x_aload_n dX8_borrow_56 rfl ?_
        refine x_iload_n dX8_borrow_57 rfl ?_
        refine x_aload_n dX8_borrow_58 rfl ?_
        refine x_callV m_X8_everybody l_X8_356 (r_everybody Rw3 (hC.setD (hB.tr (Fb.ups (l := (b 6).set (one * 7 + other) (nI k)))) (by rw [up_eq, h6, gm_set, set_set]) ⟨by rw [List.length_set]; exact hD49, getD_set_le hD999 (show k ≤ 999 by omega)⟩)) rfl Rw3.2.1 (by omega) rfl rfl (Nat.le_of_ble_eq_true rfl) ⟨Nat.le_refl _, Nat.le_refl _⟩ dX8_borrow_59 (fun r4 s4 q4 => ?_)
        obtain ⟨rfl, eq4⟩ := q4
        obtain rfl := eq4.symm
        refine x_stk (st' := [.int (nI ((2 ^ n - 1))), .int (nI one), .ref 1000]) rfl ?_
        refine x_callV m_X8_creditor l_X8_126 (r_creditor Rw3 (hC.setD (hB.tr (Fb.ups (l := (b 6).set (one * 7 + other) (nI k)))) (by rw [up_eq, h6, gm_set, set_set]) ⟨by rw [List.length_set]; exact hD49, getD_set_le hD999 (show k ≤ 999 by omega)⟩) (by omega) (by have := two_le hn7; omega)) rfl Rw3.2.1 (by omega) rfl rfl (Nat.le_of_ble_eq_true rfl) ⟨Nat.le_refl _, Nat.le_refl _⟩ dX8_borrow_62 (fun r5 s5 q5 => ?_)
        obtain ⟨rfl, eq5⟩ := q5
        obtain rfl := eq5.symm
        refine x_stk (st' := [.int ((oI (cred (D.set (one * 7 + other) k) n one (2 ^ n - 1))))]) rfl ?_
        rcases hcr : cred (D.set (one * 7 + other) k) n one (2 ^ n - 1) with _ | c9
        · refine x_stk (st' := [.int ((-1))]) rfl ?_
          refine x_iload_n dX8_borrow_65 rfl ?_
          refine x_icmpT_ne (p := (-1)) (q := ((other : Nat) : Int)) (tgt := 77) (by decide) (nI_toInt (by omega)) dX8_borrow_66 (by decide) (fun hv6 => ?_) (fun hv6 => ?_)
          · refine x_iconst (v := (-1)) dX8_borrow_77 (by decide) ?_
            refine x_istore dX8_borrow_78 (by decide) rfl ?_
            refine x_lv (lv' := [some (.ref 1000), some (.int (nI one)), some (.int (nI other)), some (.int (nI (one * 7 + other))), some (.int (nI ((D.getD (one * 7 + other) 0)))), some (.int ((-1))), some (.int (nI k))]) rfl ?_
            refine x_iincN dX8_borrow_80 rfl (by decide) rfl ?_
            refine x_lv (lv' := [some (.ref 1000), some (.int (nI one)), some (.int (nI other)), some (.int (nI (one * 7 + other))), some (.int (nI ((D.getD (one * 7 + other) 0)))), some (.int ((-1))), some (.int (nI (k + 1)))]) rfl ?_
            refine x_goto (tgt := 34) dX8_borrow_83 (by decide) ?_
            have hno : ¬ ndN D one other n ≤ k := fun q => by
              have e := (cred_set hn7 h1 h2 h12 hD49 hg).mpr q
              rw [hcr] at e
              cases e
            exact ih (k + 1) k _ sw3 Rw3 (hB.tr Fb.ups) (by rw [up_eq, h6, gm_set, set_set]) (by omega) (by omega) (by omega) (by omega)
          · exact absurd hv6 (by omega)
        · have hc9 := ((credF_ok _ _ _ _).2 c9 hcr).1
          refine x_stk (st' := [.int (nI c9)]) rfl ?_
          refine x_iload_n dX8_borrow_65 rfl ?_
          refine x_icmpN_ne (tgt := 77) dX8_borrow_66 (by decide) (by omega) (by omega) (fun hv7 => ?_) (fun hv7 => ?_)
          · refine x_iconst (v := (-1)) dX8_borrow_77 (by decide) ?_
            refine x_istore dX8_borrow_78 (by decide) rfl ?_
            refine x_lv (lv' := [some (.ref 1000), some (.int (nI one)), some (.int (nI other)), some (.int (nI (one * 7 + other))), some (.int (nI ((D.getD (one * 7 + other) 0)))), some (.int ((-1))), some (.int (nI k))]) rfl ?_
            refine x_iincN dX8_borrow_80 rfl (by decide) rfl ?_
            refine x_lv (lv' := [some (.ref 1000), some (.int (nI one)), some (.int (nI other)), some (.int (nI (one * 7 + other))), some (.int (nI ((D.getD (one * 7 + other) 0)))), some (.int ((-1))), some (.int (nI (k + 1)))]) rfl ?_
            refine x_goto (tgt := 34) dX8_borrow_83 (by decide) ?_
            have hno : ¬ ndN D one other n ≤ k := fun q => by
              have e := (cred_set hn7 h1 h2 h12 hD49 hg).mpr q
              rw [hcr] at e
              cases e; omega
            exact ih (k + 1) k _ sw3 Rw3 (hB.tr Fb.ups) (by rw [up_eq, h6, gm_set, set_set]) (by omega) (by omega) (by omega) (by omega)
          · have hyes : ndN D one other n ≤ k := (cred_set hn7 h1 h2 h12 hD49 hg).mp (by rw [hcr]; exact congrArg some (by omega))
            refine x_iload dX8_borrow_69 rfl ?_
            refine x_iload dX8_borrow_71 rfl ?_
            refine x_isubN (by omega) dX8_borrow_73 ?_
            refine x_goto (tgt := 78) dX8_borrow_74 (by decide) ?_
            refine x_istore dX8_borrow_78 (by decide) rfl ?_
            refine x_lv (lv' := [some (.ref 1000), some (.int (nI one)), some (.int (nI other)), some (.int (nI (one * 7 + other))), some (.int (nI ((D.getD (one * 7 + other) 0)))), some (.int (nI (k - ((D.getD (one * 7 + other) 0))))), some (.int (nI k))]) rfl ?_
            refine x_iincN dX8_borrow_80 rfl (by decide) rfl ?_
            refine x_lv (lv' := [some (.ref 1000), some (.int (nI one)), some (.int (nI other)), some (.int (nI (one * 7 + other))), some (.int (nI ((D.getD (one * 7 + other) 0)))), some (.int (nI (k - ((D.getD (one * 7 + other) 0))))), some (.int (nI (k + 1)))]) rfl ?_
            refine x_goto (tgt := 34) dX8_borrow_83 (by decide) ?_
            refine x_iload dX8_borrow_34 rfl ?_
            refine x_sipush (v := nI 999) dX8_borrow_36 (by decide) ?_
            refine x_icmpN_gt (tgt := 86) dX8_borrow_39 (by decide) (by omega) (by omega) (fun hv8 => ?_) (fun hv8 => ?_)
            · refine x_aload_n dX8_borrow_86 rfl ?_
              refine x_rget f_X8_35 Rw3 rfl dX8_borrow_87 ?_
              refine x_iload_n dX8_borrow_90 rfl ?_
              refine x_iload dX8_borrow_91 rfl ?_
              refine x_rast (j := 6) (n := one * 7 + other) Rw3 rfl (by decide) rfl rfl (rlt Rw3 (m := 49) (by decide) rfl (by omega)) dX8_borrow_93 (fun sw9 Rw9 => ?_)
              refine x_iload dX8_borrow_94 rfl ?_
              exact x_iret ⟨Nat.le_refl _, Nat.le_refl _⟩ rfl dX8_borrow_96 ⟨_, (by rw [brV, if_neg (by omega), show ndN D one other n - D.getD (one * 7 + other) 0 = k - D.getD (one * 7 + other) 0 by omega]), Rw9, fun j => by
  by_cases e : j = 6
  · rw [e]; show (((b 6).set (one * 7 + other) (nI k)).set (one * 7 + other) (nI (D.getD (one * 7 + other) 0))) = b0 6
    rw [h6, gm_set, gm_set, set_set, set_set, set_self (by omega), cD]
  · rw [up_ne _ _ e, up_ne _ _ e, hB j e]⟩
            · refine x_iload dX8_borrow_42 rfl ?_
              refine x_iconst (v := (-1)) dX8_borrow_44 (by decide) ?_
              refine x_icmpT_ne (p := ((k - ((D.getD (one * 7 + other) 0)) : Nat) : Int)) (q := (-1)) (tgt := 86) (nI_toInt (by omega)) (by decide) dX8_borrow_45 (by decide) (fun hv10 => ?_) (fun hv10 => ?_)
              · refine x_aload_n dX8_borrow_86 rfl ?_
                refine x_rget f_X8_35 Rw3 rfl dX8_borrow_87 ?_
                refine x_iload_n dX8_borrow_90 rfl ?_
                refine x_iload dX8_borrow_91 rfl ?_
                refine x_rast (j := 6) (n := one * 7 + other) Rw3 rfl (by decide) rfl rfl (rlt Rw3 (m := 49) (by decide) rfl (by omega)) dX8_borrow_93 (fun sw11 Rw11 => ?_)
                refine x_iload dX8_borrow_94 rfl ?_
                exact x_iret ⟨Nat.le_refl _, Nat.le_refl _⟩ rfl dX8_borrow_96 ⟨_, (by rw [brV, if_neg (by omega), show ndN D one other n - D.getD (one * 7 + other) 0 = k - D.getD (one * 7 + other) 0 by omega]), Rw11, fun j => by
  by_cases e : j = 6
  · rw [e]; show (((b 6).set (one * 7 + other) (nI k)).set (one * 7 + other) (nI (D.getD (one * 7 + other) 0))) = b0 6
    rw [h6, gm_set, gm_set, set_set, set_set, set_self (by omega), cD]
  · rw [up_ne _ _ e, up_ne _ _ e, hB j e]⟩
              · exact absurd hv10 (by omega)
set_option maxHeartbeats 4000000 in
theorem r_borrow {σ0 σ : ZS} {a : Nat → Int32} {tw : Int64} {b : Nat → List Int32} {rr n : Nat} {K N : List Nat} {W : List Int32} {D : List Nat} {fr : Int32} (hR : RM σ0 σ a tw b) (hC : RC a b rr n K N W D fr) (hg : Dg D) {one other : Nat} (h1 : one < n) (h2 : other < n) (h12 : one ≠ other) : Cn 3 M_X8_borrow 0 0 [.ref 1000, .int (nI one), .int (nI other)] σ (fun r9 σ' => ∃ b' : Nat → List Int32, r9 = some (.int (brV D n one other)) ∧ RM σ0 σ' a tw b' ∧ (∀ j, b' j = b j)) := by
  obtain ⟨c7, hrr, c13, hn7, c14, cK, cN, cW, cD, hN7, hW7, hD49, hK5, hN9, hD999⟩ := id hC
  have hd9 := hD999 (one * 7 + other)
  refine Cn.intro (lv0 := [some (.ref 1000), some (.int (nI one)), some (.int (nI other)), none, none, none, none]) rfl (Nat.le_of_ble_eq_true rfl) rfl (fun d hd => ?_)
  refine x_aload_n dX8_borrow_0 rfl ?_
  refine x_iload_n dX8_borrow_1 rfl ?_
  refine x_iload_n dX8_borrow_2 rfl ?_
  refine x_callV m_X8_areTwo l_X8_116 (r_areTwo hR hC (nI_toInt (by omega)) (nI_toInt (by omega))) rfl hR.2.1 (by omega) rfl rfl (Nat.le_of_ble_eq_true rfl) ⟨Nat.le_refl _, Nat.le_refl _⟩ dX8_borrow_3 (fun r1 s1 q1 => ?_)
  obtain ⟨rfl, eq1⟩ := q1
  obtain rfl := eq1.symm
  refine x_stk (st' := [.int (bI (decide ((0 ≤ ((one : Nat) : Int) ∧ ((one : Nat) : Int) < ((n : Nat) : Int)) ∧ (0 ≤ ((other : Nat) : Int) ∧ ((other : Nat) : Int) < ((n : Nat) : Int)) ∧ ¬ ((one : Nat) : Int) = ((other : Nat) : Int))))]) rfl ?_
  refine x_ifP_ne (P := (0 ≤ ((one : Nat) : Int) ∧ ((one : Nat) : Int) < ((n : Nat) : Int)) ∧ (0 ≤ ((other : Nat) : Int) ∧ ((other : Nat) : Int) < ((n : Nat) : Int)) ∧ ¬ ((one : Nat) : Int) = ((other : Nat) : Int)) inferInstance (tgt := 12) dX8_borrow_6 (by decide) (fun hv2 => ?_) (fun hv2 => ?_)
  · refine x_bipush (v := nI 7) dX8_borrow_12 (by decide) ?_
    refine x_iload_n dX8_borrow_14 rfl ?_
    refine x_imulN dX8_borrow_15 ?_
    refine x_topi (y := nI (one * 7)) (by rw [Nat.mul_comm]) ?_
    refine x_iload_n dX8_borrow_16 rfl ?_
    refine x_iaddN dX8_borrow_17 ?_
    refine x_istore_n dX8_borrow_18 (by decide) rfl ?_
    refine x_lv (lv' := [some (.ref 1000), some (.int (nI one)), some (.int (nI other)), some (.int (nI ((one * 7) + other))), none, none, none]) rfl ?_
    refine x_aload_n dX8_borrow_19 rfl ?_
    refine x_rget f_X8_35 hR rfl dX8_borrow_20 ?_
    refine x_iload_n dX8_borrow_23 rfl ?_
    refine x_rald (j := 6) (n := (one * 7) + other) hR rfl (by decide) rfl rfl (rlt hR (m := 49) (by decide) rfl (by omega)) dX8_borrow_24 ?_
    refine x_topi (y := nI ((D.getD ((one * 7) + other) 0))) (rgN cD) ?_
    refine x_istore dX8_borrow_25 (by decide) rfl ?_
    refine x_lv (lv' := [some (.ref 1000), some (.int (nI one)), some (.int (nI other)), some (.int (nI ((one * 7) + other))), some (.int (nI ((D.getD ((one * 7) + other) 0)))), none, none]) rfl ?_
    refine x_iconst (v := (-1)) dX8_borrow_27 (by decide) ?_
    refine x_istore dX8_borrow_28 (by decide) rfl ?_
    refine x_lv (lv' := [some (.ref 1000), some (.int (nI one)), some (.int (nI other)), some (.int (nI ((one * 7) + other))), some (.int (nI ((D.getD ((one * 7) + other) 0)))), some (.int ((-1))), none]) rfl ?_
    refine x_iload dX8_borrow_30 rfl ?_
    refine x_istore dX8_borrow_32 (by decide) rfl ?_
    refine x_lv (lv' := [some (.ref 1000), some (.int (nI one)), some (.int (nI other)), some (.int (nI ((one * 7) + other))), some (.int (nI ((D.getD ((one * 7) + other) 0)))), some (.int ((-1))), some (.int (nI ((D.getD ((one * 7) + other) 0))))]) rfl ?_
    exact lr_borrow hC hg h1 h2 h12 (Nat.le_trans (by decide) hd) (1000 - D.getD (one * 7 + other) 0) (D.getD (one * 7 + other) 0) (D.getD (one * 7 + other) 0) b σ hR Fb.rf (by rw [set_self (by omega)]; exact cD) (by omega) (Or.inl rfl) (Nat.le_refl _) (by omega)
  · exact absurd (show _ ∧ _ ∧ _ from ⟨⟨by omega, by omega⟩, ⟨by omega, by omega⟩, by omega⟩) hv2
set_option maxHeartbeats 4000000 in
theorem r_borrow_bad {σ0 σ : ZS} {a : Nat → Int32} {tw : Int64} {b : Nat → List Int32} {rr n : Nat} {K N : List Nat} {W : List Int32} {D : List Nat} {fr : Int32} (hR : RM σ0 σ a tw b) (hC : RC a b rr n K N W D fr) {x y : Int32} (hxy : ¬ ((0 ≤ x.toInt ∧ x.toInt < ((n : Nat) : Int)) ∧ (0 ≤ y.toInt ∧ y.toInt < ((n : Nat) : Int)) ∧ ¬ x.toInt = y.toInt)) : Cn 3 M_X8_borrow 0 0 [.ref 1000, .int x, .int y] σ (fun r9 σ' => r9 = some (.int (-2)) ∧ σ' = σ) := by
  obtain ⟨c7, hrr, c13, hn7, c14, cK, cN, cW, cD, hN7, hW7, hD49, hK5, hN9, hD999⟩ := id hC
  refine Cn.intro (lv0 := [some (.ref 1000), some (.int x), some (.int y), none, none, none, none]) rfl (Nat.le_of_ble_eq_true rfl) rfl (fun d hd => ?_)
  refine x_aload_n dX8_borrow_0 rfl ?_
  refine x_iload_n dX8_borrow_1 rfl ?_
  refine x_iload_n dX8_borrow_2 rfl ?_
  refine x_callV m_X8_areTwo l_X8_116 (r_areTwo hR hC rfl rfl) rfl hR.2.1 (by omega) rfl rfl (Nat.le_of_ble_eq_true rfl) ⟨Nat.le_refl _, Nat.le_refl _⟩ dX8_borrow_3 (fun r1 s1 q1 => ?_)
  obtain ⟨rfl, eq1⟩ := q1
  obtain rfl := eq1.symm
  refine x_stk (st' := [.int (bI (decide ((0 ≤ (x).toInt ∧ (x).toInt < ((n : Nat) : Int)) ∧ (0 ≤ (y).toInt ∧ (y).toInt < ((n : Nat) : Int)) ∧ ¬ (x).toInt = (y).toInt)))]) rfl ?_
  refine x_ifP_ne (P := (0 ≤ (x).toInt ∧ (x).toInt < ((n : Nat) : Int)) ∧ (0 ≤ (y).toInt ∧ (y).toInt < ((n : Nat) : Int)) ∧ ¬ (x).toInt = (y).toInt) inferInstance (tgt := 12) dX8_borrow_6 (by decide) (fun hv2 => ?_) (fun hv2 => ?_)
  · exact absurd hv2 hxy
  · refine x_bipush (v := (-2)) dX8_borrow_9 (by decide) ?_
    exact x_iret ⟨Nat.le_refl _, Nat.le_refl _⟩ rfl dX8_borrow_11 ⟨rfl, rfl⟩
def anB (r : Bool) (n : Nat) (K N D : List Nat) (A : Nat) : Bool := decide (0 < (lwf r A (wlS K N D n A (-1))).length)
def cmpR (an : Nat → Bool) : Nat → Nat → Nat → Nat
  | 0, _, F => F
  | q + 1, k, F => cmpR an q (k + 1) (if popc F < popc k ∧ an k = true then k else F)
theorem bits_lt {A n p : Nat} (hA : A < 2 ^ n) (h : A.testBit p = true) : p < n := by
  by_cases c : p < n
  · exact c
  · rw [Nat.testBit_lt_two_pow (Nat.lt_of_lt_of_le hA (Nat.pow_le_pow_right (n := 2) (by decide) (by omega)))] at h
    cases h
set_option maxHeartbeats 4000000 in
theorem lr_company {σ0 : ZS} {a0 : Nat → Int32} {b0 : Nat → List Int32} {rr n : Nat} {K N : List Nat} {W : List Int32} {D : List Nat} {ru : Nat} {L S : List Nat} {lf jf : Nat} (hg : Dg D) {x : Int32} {d : Nat} (hd : 182 ≤ d) : ∀ (q k : Nat) (F : Nat) (hF : F < 2 ^ n) (a : Nat → Int32) (tw : Int64) (b : Nat → List Int32) (σ : ZS) (hR : RM σ0 σ a tw b) (hW : BW a b rr n K N W D (-1) ru L S lf jf) (hA : FrR a0 a) (hB : Fq b0 b), k + q = 2 ^ n → X M_X8_company d 0 0 (fun r9 σ' => ∃ (a' : Nat → Int32) (tw' : Int64) (b' : Nat → List Int32), r9 = some (.int (if x.toInt = 0 then nI (cmpR (anB (decide (rr = 1)) n K N D) q k F) else nI (popc (cmpR (anB (decide (rr = 1)) n K N D) q k F)))) ∧ RM σ0 σ' a' tw' b' ∧ FrR a0 a' ∧ Fq b0 b') 0 0 17 [some (.ref 1000), some (.int x), some (.int (nI F)), some (.int (nI k))] [] σ := by
  intro q
  induction q with
  | zero =>
    intro k F hF a tw b σ hR hW hA hB hk
    obtain ⟨hC, hT⟩ := id hW
    obtain ⟨c7, hrr, c13, hn7, c14, cK, cN, cW, cD, hN7, hW7, hD49, hK5, hN9, hD999⟩ := id hC
    have h2n := two_le hn7
    have h2p := Nat.two_pow_pos n
    refine x_iload_n dX8_company_17 rfl ?_
    refine x_aload_n dX8_company_18 rfl ?_
    refine x_callV m_X8_everybody l_X8_356 (r_everybody hR hC) rfl hR.2.1 (by omega) rfl rfl (Nat.le_of_ble_eq_true rfl) ⟨Nat.le_refl _, Nat.le_refl _⟩ dX8_company_19 (fun r1 s1 q1 => ?_)
    obtain ⟨rfl, eq1⟩ := q1
    obtain rfl := eq1.symm
    refine x_stk (st' := [.int (nI ((2 ^ n - 1))), .int (nI k)]) rfl ?_
    refine x_icmpN_gt (tgt := 52) dX8_company_22 (by decide) (by omega) (by omega) (fun hv2 => ?_) (fun hv2 => ?_)
    · refine x_iload_n dX8_company_52 rfl ?_
      refine x_ifT_ne (p := (x).toInt) (tgt := 60) rfl dX8_company_53 (by decide) (fun hv3 => ?_) (fun hv3 => ?_)
      · refine x_iload_n dX8_company_60 rfl ?_
        refine x_callS m_X8_bitsOf l_X8_351 (r_bitsOf (by omega)) (by omega) rfl rfl (Nat.le_of_ble_eq_true rfl) ⟨Nat.le_refl _, Nat.le_refl _⟩ dX8_company_61 (fun r4 s4 q4 => ?_)
        obtain ⟨rfl, eq4⟩ := q4
        obtain rfl := eq4.symm
        refine x_stk (st' := [.int (nI ((popc F)))]) rfl ?_
        exact x_iret ⟨Nat.le_refl _, Nat.le_refl _⟩ rfl dX8_company_64 ⟨_, _, _, by rw [cmpR, if_neg (by omega)], hR, hA, hB⟩
      · refine x_iload_n dX8_company_56 rfl ?_
        refine x_goto (tgt := 64) dX8_company_57 (by decide) ?_
        exact x_iret ⟨Nat.le_refl _, Nat.le_refl _⟩ rfl dX8_company_64 ⟨_, _, _, by rw [cmpR, if_pos (by omega)], hR, hA, hB⟩
    · exact absurd hv2 (by omega)
  | succ q ih =>
    intro k F hF a tw b σ hR hW hA hB hk
    obtain ⟨hC, hT⟩ := id hW
    obtain ⟨c7, hrr, c13, hn7, c14, cK, cN, cW, cD, hN7, hW7, hD49, hK5, hN9, hD999⟩ := id hC
    have h2n := two_le hn7
    have h2p := Nat.two_pow_pos n
    refine x_iload_n dX8_company_17 rfl ?_
    refine x_aload_n dX8_company_18 rfl ?_
    refine x_callV m_X8_everybody l_X8_356 (r_everybody hR hC) rfl hR.2.1 (by omega) rfl rfl (Nat.le_of_ble_eq_true rfl) ⟨Nat.le_refl _, Nat.le_refl _⟩ dX8_company_19 (fun r1 s1 q1 => ?_)
    obtain ⟨rfl, eq1⟩ := q1
    obtain rfl := eq1.symm
    refine x_stk (st' := [.int (nI ((2 ^ n - 1))), .int (nI k)]) rfl ?_
    refine x_icmpN_gt (tgt := 52) dX8_company_22 (by decide) (by omega) (by omega) (fun hv2 => ?_) (fun hv2 => ?_)
    · exact absurd hv2 (by omega)
    · refine x_iload_n dX8_company_25 rfl ?_
      have hpk := popc_le k (by omega)
      have hpF := popc_le F (by omega)
      refine x_callS m_X8_bitsOf l_X8_351 (r_bitsOf (by omega)) (by omega) rfl rfl (Nat.le_of_ble_eq_true rfl) ⟨Nat.le_refl _, Nat.le_refl _⟩ dX8_company_26 (fun r3 s3 q3 => ?_)
      obtain ⟨rfl, eq3⟩ := q3
      obtain rfl := eq3.symm
      refine x_stk (st' := [.int (nI ((popc k)))]) rfl ?_
      refine x_iload_n dX8_company_29 rfl ?_
      refine x_callS m_X8_bitsOf l_X8_351 (r_bitsOf (by omega)) (by omega) rfl rfl (Nat.le_of_ble_eq_true rfl) ⟨Nat.le_refl _, Nat.le_refl _⟩ dX8_company_30 (fun r4 s4 q4 => ?_)
      obtain ⟨rfl, eq4⟩ := q4
      obtain rfl := eq4.symm
      refine x_stk (st' := [.int (nI ((popc F))), .int (nI ((popc k)))]) rfl ?_
      refine x_icmpN_le (tgt := 46) dX8_company_33 (by decide) (by omega) (by omega) (fun hv5 => ?_) (fun hv5 => ?_)
      · refine x_iincN dX8_company_46 rfl (by decide) rfl ?_
        refine x_lv (lv' := [some (.ref 1000), some (.int x), some (.int (nI F)), some (.int (nI (k + 1)))]) rfl ?_
        refine x_goto (tgt := 17) dX8_company_49 (by decide) ?_
        have e9 : cmpR (anB (decide (rr = 1)) n K N D) (q + 1) k F = cmpR (anB (decide (rr = 1)) n K N D) q (k + 1) F := by rw [cmpR, (if_neg (fun z => by have z1 := z.1; omega))]
        rw [e9]
        exact ih (k + 1) F (by omega) a tw b σ hR hW hA hB (by omega)
      · refine x_aload_n dX8_company_36 rfl ?_
        refine x_iload_n dX8_company_37 rfl ?_
        refine x_callV m_X8_isAny l_X8_363 (r_isAny (fr := (-1)) hR hW (show k < 128 by omega) (fun p hp => bits_lt (show k < 2 ^ n by omega) hp) hg) rfl hR.2.1 (by omega) rfl rfl (Nat.le_of_ble_eq_true rfl) ⟨Nat.le_refl _, Nat.le_refl _⟩ dX8_company_38 (fun r6 s6 q6 => ?_)
        obtain ⟨a6, tw6, b6, rfl, R6, A6, B6⟩ := q6
        refine x_stk (st' := [.int (bI (decide (0 < (lwf (decide (rr = 1)) k (wlS K N D n k (-1))).length)))]) rfl ?_
        refine x_ifP_eq (P := 0 < (lwf (decide (rr = 1)) k (wlS K N D n k (-1))).length) inferInstance (tgt := 46) dX8_company_41 (by decide) (fun hv7 => ?_) (fun hv7 => ?_)
        · refine x_iincN dX8_company_46 rfl (by decide) rfl ?_
          refine x_lv (lv' := [some (.ref 1000), some (.int x), some (.int (nI F)), some (.int (nI (k + 1)))]) rfl ?_
          refine x_goto (tgt := 17) dX8_company_49 (by decide) ?_
          have e9 : cmpR (anB (decide (rr = 1)) n K N D) (q + 1) k F = cmpR (anB (decide (rr = 1)) n K N D) q (k + 1) F := by rw [cmpR, (if_neg (fun z => hv7 (of_decide_eq_true z.2)))]
          rw [e9]
          exact ih (k + 1) F (by omega) _ _ _ s6 R6 (hW.fr A6 B6) (hA.tr A6) (hB.tr B6) (by omega)
        · refine x_iload_n dX8_company_44 rfl ?_
          refine x_istore_n dX8_company_45 (by decide) rfl ?_
          refine x_lv (lv' := [some (.ref 1000), some (.int x), some (.int (nI k)), some (.int (nI k))]) rfl ?_
          refine x_iincN dX8_company_46 rfl (by decide) rfl ?_
          refine x_lv (lv' := [some (.ref 1000), some (.int x), some (.int (nI k)), some (.int (nI (k + 1)))]) rfl ?_
          refine x_goto (tgt := 17) dX8_company_49 (by decide) ?_
          have e9 : cmpR (anB (decide (rr = 1)) n K N D) (q + 1) k F = cmpR (anB (decide (rr = 1)) n K N D) q (k + 1) k := by rw [cmpR, (if_pos ⟨by omega, decide_eq_true hv7⟩)]
          rw [e9]
          exact ih (k + 1) k (by omega) _ _ _ s6 R6 (hW.fr A6 B6) (hA.tr A6) (hB.tr B6) (by omega)
set_option maxHeartbeats 4000000 in
theorem r_company {σ0 σ : ZS} {a : Nat → Int32} {tw : Int64} {b : Nat → List Int32} {rr n : Nat} {K N : List Nat} {W : List Int32} {D : List Nat} {ru : Nat} {L S : List Nat} {lf jf : Nat} (hR : RM σ0 σ a tw b) (hW : BW a b rr n K N W D (-1) ru L S lf jf) (hg : Dg D) {x : Int32} : Cn 183 M_X8_company 0 0 [.ref 1000, .int x] σ (fun r9 σ' => ∃ (a' : Nat → Int32) (tw' : Int64) (b' : Nat → List Int32), r9 = some (.int (if 0 ≤ x.toInt ∧ x.toInt ≤ 1 then (if x.toInt = 0 then nI (cmpR (anB (decide (rr = 1)) n K N D) (2 ^ n - 1) 1 0) else nI (popc (cmpR (anB (decide (rr = 1)) n K N D) (2 ^ n - 1) 1 0))) else -2)) ∧ RM σ0 σ' a' tw' b' ∧ FrR a a' ∧ Fq b b') := by
  obtain ⟨hC, hT⟩ := id hW
  obtain ⟨c7, hrr, c13, hn7, c14, cK, cN, cW, cD, hN7, hW7, hD49, hK5, hN9, hD999⟩ := id hC
  have h2p := Nat.two_pow_pos n
  refine Cn.intro (lv0 := [some (.ref 1000), some (.int x), none, none]) rfl (Nat.le_of_ble_eq_true rfl) rfl (fun d hd => ?_)
  refine x_iload_n dX8_company_0 rfl ?_
  refine x_i2l dX8_company_1 ?_
  refine x_lconst (v := 0) dX8_company_2 (by decide) ?_
  refine x_lconst (v := 1) dX8_company_3 (by decide) ?_
  refine x_callS m_X8_in l_X8_85 (r_in (p := (x).toInt) (q := 0) (r := 1) (tL rfl) (by decide) (by decide)) (by omega) rfl rfl (Nat.le_of_ble_eq_true rfl) ⟨Nat.le_refl _, Nat.le_refl _⟩ dX8_company_4 (fun r1 s1 q1 => ?_)
  obtain ⟨rfl, eq1⟩ := q1
  obtain rfl := eq1.symm
  refine x_stk (st' := [.int (bI (decide (0 ≤ (x).toInt ∧ (x).toInt ≤ 1)))]) rfl ?_
  refine x_ifP_ne (P := 0 ≤ (x).toInt ∧ (x).toInt ≤ 1) inferInstance (tgt := 13) dX8_company_7 (by decide) (fun hv2 => ?_) (fun hv2 => ?_)
  · refine x_iconst (v := nI 0) dX8_company_13 (by decide) ?_
    refine x_istore_n dX8_company_14 (by decide) rfl ?_
    refine x_lv (lv' := [some (.ref 1000), some (.int x), some (.int (nI 0)), none]) rfl ?_
    refine x_iconst (v := nI 1) dX8_company_15 (by decide) ?_
    refine x_istore_n dX8_company_16 (by decide) rfl ?_
    refine x_lv (lv' := [some (.ref 1000), some (.int x), some (.int (nI 0)), some (.int (nI 1))]) rfl ?_
    rw [if_pos hv2]
    exact lr_company hg (Nat.le_trans (by decide) hd) (2 ^ n - 1) 1 0 (by omega) a tw b σ hR hW FrR.rf Fq.rf (by omega)
  · refine x_bipush (v := (-2)) dX8_company_10 (by decide) ?_
    exact x_iret ⟨Nat.le_refl _, Nat.le_refl _⟩ rfl dX8_company_12 ⟨_, _, _, by rw [if_neg hv2], hR, FrR.rf, Fq.rf⟩
