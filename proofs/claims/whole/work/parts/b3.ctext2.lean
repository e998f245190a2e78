/-! the class: its texts' cells, text -/
theorem ln_key {α : Type} {l l' : List α} {n : Nat} (hl : l.length = n + 1) (h1 : l'[n]? = l[n]?) (h2 : l'[n + 1]? = l[n + 1]?) : l'.length = n + 1 := by
  rw [List.getElem?_eq_getElem (l := l) (by omega)] at h1
  have a := (List.getElem?_eq_some_iff.mp h1).1
  rw [List.getElem?_eq_none (l := l) (by omega)] at h2
  have b := List.getElem?_eq_none_iff.mp h2
  omega
theorem Fr.ln {σ σ' : ZS} {P : Nat → Prop} {c : Nat} (hF : Fr P σ σ') (h : Ln σ 40 18 c) (hP : ∀ i, P i → i < 39) (hc : c < 900) : Ln σ' 40 18 c := by
  have q1 : ∀ i, 39 ≤ i → i < 1000 → σ'.1[i]? = σ.1[i]? := fun i h1 h2 => by
    have e := hF i (fun q => by have := hP i q; omega)
    rw [zg, zg, if_pos h2, if_pos h2] at e
    exact e
  have q2 : ∀ i, i < 1000 → σ'.2.1[i]? = σ.2.1[i]? := fun i h2 => by
    have e := hF (1000 + i) (fun q => by have := hP _ q; omega)
    have g : ∀ τ : ZS, zg τ (1000 + i) = τ.2.1[i]? := fun τ => by rw [zg, if_neg (by omega), if_pos (by omega), Nat.add_sub_cancel_left]
    rw [g, g] at e
    exact e
  have q3 : ∀ i, i < 1000 → σ'.2.2[i]? = σ.2.2[i]? := fun i h2 => by
    have e := hF (2000 + i) (fun q => by have := hP _ q; omega)
    have g : ∀ τ : ZS, zg τ (2000 + i) = τ.2.2[i]? := fun τ => by rw [zg, if_neg (by omega), if_neg (by omega), if_pos (by omega), Nat.add_sub_cancel_left]
    rw [g, g] at e
    exact e
  refine ⟨ln_key h.1 (q1 39 (by omega) (by omega)) (q1 40 (by omega) (by omega)), ln_key h.2.1 (q2 17 (by omega)) (q2 18 (by omega)), ?_⟩
  cases c with
  | zero =>
    have e := q3 0 (by omega)
    rw [List.getElem?_eq_none (l := σ.2.2) (by rw [h.2.2]; omega)] at e
    have := List.getElem?_eq_none_iff.mp e
    omega
  | succ c => exact ln_key h.2.2 (q3 c (by omega)) (q3 (c + 1) (by omega))
set_option maxHeartbeats 4000000 in
theorem c_text_f {σ : ZS} {m : Nat} {ik : Int32} (k0 : zg σ 0 = some (.inr (.inr (6, [.ref 1, .ref 6, .ref 11, .ref 16, .ref 22, .ref 28, .ref 31, .int (nI m), .int ik])))) (hm : m = 6) : Cn 0 M_X7_text 3 364 [.ref 0] σ (fun r9 σ' => r9 = some (.int (-4)) ∧ σ' = σ) := by
  refine Cn.intro (lv0 := [some (.ref 0), none]) rfl (Nat.le_of_ble_eq_true rfl) rfl (fun d hd => ?_)
  refine x_aload_n dX7_text_0 rfl ?_
  refine x_get (v := .int (nI m)) f_X7_49 k0 rfl dX7_text_1 ?_
  refine x_bipush (v := nI 6) dX7_text_4 (by decide) ?_
  refine x_icmpN_lt (tgt := 12) dX7_text_6 (by decide) (by omega) (by omega) (fun hv1 => ?_) (fun hv1 => ?_)
  · exact absurd hv1 (by omega)
  · refine x_bipush (v := (-4)) dX7_text_9 (by decide) ?_
    exact x_iret ⟨by omega, by first | omega | (simp only [List.length_cons, List.length_nil]; omega)⟩ rfl dX7_text_11 ⟨rfl, rfl⟩
set_option maxHeartbeats 4000000 in
theorem c_text_bad {σ : ZS} {m c : Nat} {ik : Int32} (k0 : zg σ 0 = some (.inr (.inr (6, [.ref 1, .ref 6, .ref 11, .ref 16, .ref 22, .ref 28, .ref 31, .int (nI m), .int ik])))) {L : List Nat} {Tp : List Int32} (hT : TxL L Tp) {ap tk tp tv fa sc lf0 jf0 : Int32} {St : List Int32} (hr : Rd σ (nI L.length) ap tk tp tv fa sc lf0 jf0 Tp St) (hm : m < 6) {f : Nat} (hp : pText L = .inl f) : Cn 320 M_X7_text 3 364 [.ref 0] σ (fun r9 σ' => r9 = some (.int ((-100) - nI f)) ∧ (∃ (ap tk tp tv fa sc lf0 jf0 : Int32) (St : List Int32), Rd σ' (nI 0) ap tk tp tv fa sc lf0 jf0 Tp St) ∧ Fr (fun i => 28 ≤ i ∧ i ≤ 30) σ σ') := by
  refine Cn.intro (lv0 := [some (.ref 0), none]) rfl (Nat.le_of_ble_eq_true rfl) rfl (fun d hd => ?_)
  refine x_aload_n dX7_text_0 rfl ?_
  refine x_get (v := .int (nI m)) f_X7_49 k0 rfl dX7_text_1 ?_
  refine x_bipush (v := nI 6) dX7_text_4 (by decide) ?_
  refine x_icmpN_lt (tgt := 12) dX7_text_6 (by decide) (by omega) (by omega) (fun hv1 => ?_) (fun hv1 => ?_)
  · refine x_aload_n dX7_text_12 rfl ?_
    refine x_get (v := .ref 28) f_X7_39 k0 rfl dX7_text_13 ?_
    refine x_callV m_X3_read l_X7_140 (c_read hT hr) rfl hr.1 (by omega) rfl rfl (Nat.le_of_ble_eq_true rfl) ⟨by omega, by first | omega | (simp only [List.length_cons, List.length_nil]; omega)⟩ dX7_text_16 (fun r2 s2 q2 => ?_)
    obtain ⟨F2, q2⟩ := q2
    rw [hp] at q2
    obtain ⟨rfl, lf2, jf2, ap2, tp2, tv2, sc2, St2, h2, hsc2, hf2⟩ := q2
    refine x_stk (st' := [.int (nI f)]) rfl ?_
    refine x_istore_n dX7_text_19 (by decide) rfl ?_
    refine x_lv (lv' := [some (.ref 0), some (.int (nI f))]) rfl ?_
    refine x_aload_n dX7_text_20 rfl ?_
    refine x_get (v := .ref 28) f_X7_39 (F2.at (by omega) k0) rfl dX7_text_21 ?_
    refine x_iconst (v := nI 0) dX7_text_24 (by decide) ?_
    refine x_putK f_X7_137 h2.1 (Nat.le_of_ble_eq_true rfl) (fun c => ⟨rfl, rfl⟩) dX7_text_25 (fun sw3 gw3 Fw3 => ?_)
    refine x_iload_n dX7_text_28 rfl ?_
    refine x_iconst (v := (-1)) dX7_text_29 (by decide) ?_
    refine x_icmpT_eq (p := ((f : Nat) : Int)) (q := (-1)) (tgt := 38) (nI_toInt (by omega)) (by decide) dX7_text_30 (by decide) (fun hv4 => ?_) (fun hv4 => ?_)
    · exact absurd hv4 (by omega)
    · refine x_bipush (v := (-100)) dX7_text_33 (by decide) ?_
      refine x_iload_n dX7_text_35 rfl ?_
      refine x_isub dX7_text_36 ?_
      exact x_iret ⟨by omega, by first | omega | (simp only [List.length_cons, List.length_nil]; omega)⟩ rfl dX7_text_37 ⟨rfl, ⟨_, _, _, _, _, _, _, _, _, gw3, (Fw3.at (by omega) h2.2.1), (Fw3.at (by omega) h2.2.2.1), h2.2.2.2⟩, ((Fr.rf.tr (F2.mono (fun i hi => by omega))).tr (Fw3.mono (fun i hi => by omega)))⟩
  · exact absurd hv1 (by omega)
set_option maxHeartbeats 4000000 in
theorem c_text_ok {σ : ZS} {m c : Nat} {ik : Int32} (k0 : zg σ 0 = some (.inr (.inr (6, [.ref 1, .ref 6, .ref 11, .ref 16, .ref 22, .ref 28, .ref 31, .int (nI m), .int ik])))) {L : List Nat} {Tp : List Int32} (hT : TxL L Tp) {ap tk tp tv fa sc lf0 jf0 : Int32} {St : List Int32} (hr : Rd σ (nI L.length) ap tk tp tv fa sc lf0 jf0 Tp St) (hm : m < 6) {S : List Nat} {lf jf : Nat} (hp : pText L = .inr (S, lf, jf)) (hLn : Ln σ 40 18 c) (hc : c < 100) (m0 : zg σ 16 = some (.inr (.inr (0, [.ref 17, .ref 18])))) {rl : List (Option Nat)} (m1 : zg σ 17 = some (.inr (.inl (2, rl)))) (hrl : rl.length = 6) : Cn 320 M_X7_text 3 364 [.ref 0] σ (fun r9 σ' => r9 = some (.int (nI m)) ∧ zg σ' 0 = some (.inr (.inr (6, [.ref 1, .ref 6, .ref 11, .ref 16, .ref 22, .ref 28, .ref 31, .int (nI (m + 1)), .int ik]))) ∧ (∃ (ap tk tp tv fa sc lf0 jf0 : Int32) (St : List Int32), Rd σ' (nI 0) ap tk tp tv fa sc lf0 jf0 Tp St) ∧ zg σ' 17 = some (.inr (.inl (2, rl.set m (some (2000 + c))))) ∧ zg σ' (2000 + c) = some (.inr (.inr (3, [.ref (2000 + (c + 1)), .int (nI lf), .int (nI jf), .ref (2000 + (c + 1 + 1))]))) ∧ zg σ' (2000 + (c + 1)) = some (.inl (0, S.map nI)) ∧ zg σ' (2000 + (c + 1 + 1)) = some (.inl (0, List.replicate S.length 0)) ∧ Ln σ' 40 18 (c + 1 + 1 + 1) ∧ Fr (fun i => i = 0 ∨ i = 17 ∨ (28 ≤ i ∧ i ≤ 30) ∨ (2000 + c ≤ i ∧ i ≤ 2000 + (c + 1 + 1))) σ σ') := by
  obtain ⟨-, -, hS160, -⟩ := pText_ok hp hT.1
  refine Cn.intro (lv0 := [some (.ref 0), none]) rfl (Nat.le_of_ble_eq_true rfl) rfl (fun d hd => ?_)
  refine x_aload_n dX7_text_0 rfl ?_
  refine x_get (v := .int (nI m)) f_X7_49 k0 rfl dX7_text_1 ?_
  refine x_bipush (v := nI 6) dX7_text_4 (by decide) ?_
  refine x_icmpN_lt (tgt := 12) dX7_text_6 (by decide) (by omega) (by omega) (fun hv1 => ?_) (fun hv1 => ?_)
  · refine x_aload_n dX7_text_12 rfl ?_
    refine x_get (v := .ref 28) f_X7_39 k0 rfl dX7_text_13 ?_
    refine x_callV m_X3_read l_X7_140 (c_read hT hr) rfl hr.1 (by omega) rfl rfl (Nat.le_of_ble_eq_true rfl) ⟨by omega, by first | omega | (simp only [List.length_cons, List.length_nil]; omega)⟩ dX7_text_16 (fun r2 s2 q2 => ?_)
    obtain ⟨F2, q2⟩ := q2
    rw [hp] at q2
    obtain ⟨rfl, pp2, tv2, St2, h2, hv2, hS2, hl2⟩ := q2
    refine x_stk (st' := [.int ((-1))]) rfl ?_
    refine x_istore_n dX7_text_19 (by decide) rfl ?_
    refine x_lv (lv' := [some (.ref 0), some (.int ((-1)))]) rfl ?_
    refine x_aload_n dX7_text_20 rfl ?_
    refine x_get (v := .ref 28) f_X7_39 (F2.at (by omega) k0) rfl dX7_text_21 ?_
    refine x_iconst (v := nI 0) dX7_text_24 (by decide) ?_
    refine x_putG f_X7_137 h2.1 (Nat.le_of_ble_eq_true rfl) (fun c => ⟨rfl, rfl⟩) dX7_text_25 (fun sw3 gw3 Fw3 Lw3 => ?_)
    refine x_iload_n dX7_text_28 rfl ?_
    refine x_iconst (v := (-1)) dX7_text_29 (by decide) ?_
    refine x_icmpT_eq (p := (-1)) (q := (-1)) (tgt := 38) (by decide) (by decide) dX7_text_30 (by decide) (fun hv4 => ?_) (fun hv4 => ?_)
    · refine x_aload_n dX7_text_38 rfl ?_
      refine x_get (v := .ref 16) f_X7_25 (Fw3.at (by omega) (F2.at (by omega) k0)) rfl dX7_text_39 ?_
      refine x_get (v := .ref 17) f_X7_143 (Fw3.at (by omega) (F2.at (by omega) m0)) rfl dX7_text_42 ?_
      refine x_aload_n dX7_text_45 rfl ?_
      refine x_get (v := .int (nI m)) f_X7_49 (Fw3.at (by omega) (F2.at (by omega) k0)) rfl dX7_text_46 ?_
      refine x_aload_n dX7_text_49 rfl ?_
      refine x_get (v := .ref 28) f_X7_39 (Fw3.at (by omega) (F2.at (by omega) k0)) rfl dX7_text_50 ?_
      refine x_callV m_X3_rule l_X7_147 (c_rule2 ⟨gw3, (Fw3.at (by omega) h2.2.1), (Fw3.at (by omega) h2.2.2.1), h2.2.2.2⟩ hS2 (by omega) (Lw3 _ _ _ (F2.ln hLn (by omega) (by omega))) (by omega)) rfl gw3 (by omega) rfl rfl (Nat.le_of_ble_eq_true rfl) ⟨by omega, by first | omega | (simp only [List.length_cons, List.length_nil]; omega)⟩ dX7_text_53 (fun r5 s5 q5 => ?_)
      obtain ⟨rfl, y5, z5, x5, L5, F5⟩ := q5
      refine x_stk (st' := [.ref ((2000 + c)), .int (nI m), .ref 17]) rfl ?_
      refine x_aastG (n := m) (by decide) (F5.at (by omega) (Fw3.at (by omega) (F2.at (by omega) m1))) y5 rfl (by first | omega | (simp only [List.length_replicate, List.length_set]; omega)) dX7_text_56 (fun sw6 gw6 Fw6 Lw6 => ?_)
      refine x_aload_n dX7_text_57 rfl ?_
      refine x_dup dX7_text_58 rfl ?_
      refine x_get (v := .int (nI m)) f_X7_49 (Fw6.at (by omega) (F5.at (by omega) (Fw3.at (by omega) (F2.at (by omega) k0)))) rfl dX7_text_59 ?_
      refine x_iconst (v := nI 1) dX7_text_62 (by decide) ?_
      refine x_iaddN dX7_text_63 ?_
      refine x_putG f_X7_49 (Fw6.at (by omega) (F5.at (by omega) (Fw3.at (by omega) (F2.at (by omega) k0)))) (Nat.le_of_ble_eq_true rfl) (fun c => ⟨rfl, rfl⟩) dX7_text_64 (fun sw7 gw7 Fw7 Lw7 => ?_)
      refine x_aload_n dX7_text_67 rfl ?_
      refine x_get (v := .int (nI (m + 1))) f_X7_49 gw7 rfl dX7_text_68 ?_
      refine x_iconst (v := nI 1) dX7_text_71 (by decide) ?_
      refine x_isubN (by omega) dX7_text_72 ?_
      exact x_iret ⟨by omega, by first | omega | (simp only [List.length_cons, List.length_nil]; omega)⟩ rfl dX7_text_73 ⟨rfl, gw7, ⟨_, _, _, _, _, _, _, _, _, (Fw7.at (by omega) (Fw6.at (by omega) (F5.at (by omega) gw3))), (Fw7.at (by omega) (Fw6.at (by omega) (F5.at (by omega) (Fw3.at (by omega) h2.2.1)))), (Fw7.at (by omega) (Fw6.at (by omega) (F5.at (by omega) (Fw3.at (by omega) h2.2.2.1)))), h2.2.2.2⟩, (Fw7.at (by omega) gw6), (Fw7.at (by omega) (Fw6.at (by omega) y5)), (Fw7.at (by omega) (Fw6.at (by omega) z5)), (Fw7.at (by omega) (Fw6.at (by omega) x5)), (Lw7 _ _ _ (Lw6 _ _ _ L5)), (((((Fr.rf.tr (F2.mono (fun i hi => by omega))).tr (Fw3.mono (fun i hi => by omega))).tr (F5.mono (fun i hi => by omega))).tr (Fw6.mono (fun i hi => by omega))).tr (Fw7.mono (fun i hi => by omega)))⟩
    · exact absurd hv4 (by omega)
  · exact absurd hv1 (by omega)
