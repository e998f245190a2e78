/-! the class: would it fit -/
theorem credF_row {D D' : List Nat} {p S : Nat} : ∀ (n : Nat), (∀ k, k < n → D.getD (p * 7 + k) 0 = D'.getD (p * 7 + k) 0) → credF D p S n = credF D' p S n
  | 0, _ => rfl
  | n + 1, h => by rw [credF, credF, credF_row n (fun k hk => h k (by omega)), h n (by omega)]
theorem wishO_row {K N D K' N' D' : List Nat} {n p S : Nat} (hn : n ≤ 7) (hK : K.getD p 0 = K'.getD p 0) (hN : N.getD p 0 = N'.getD p 0) (hD : ∀ k, k < 7 → D.getD (p * 7 + k) 0 = D'.getD (p * 7 + k) 0) : wishO K N D n p S = wishO K' N' D' n p S := by
  have e : cred D n p S = cred D' n p S := by rw [cred, cred, credF_row n (fun k hk => hD k (by omega))]
  unfold wishO
  rw [e]
  cases hx : cred D' n p S with
  | none => rfl
  | some c =>
    have hc := ((credF_ok D' p S n).2 c hx).1
    simp only
    rw [hK, hN, hD c (by omega)]
theorem wlS_row {K N D K' N' D' : List Nat} {n A i : Nat} {e : Int32} (hn : n ≤ 7) (hi : i < 7) (hK : K.getD i 0 = K'.getD i 0) (hN : N.getD i 0 = N'.getD i 0) (hD : ∀ k, k < 7 → D.getD (i * 7 + k) 0 = D'.getD (i * 7 + k) 0) : (wlS K N D n A e).getD i none = (wlS K' N' D' n A e).getD i none := by
  rw [wlS_get hi, wlS_get hi, wishO_row hn hK hN hD]
theorem wlS_put {wl : List (Option Nat)} {K N D : List Nat} {n A one : Nat} (hl : wl.length = 7) (h1 : one < 7) (hA : A.testBit one = true) (h : ∀ i, i < 7 → i ≠ one → wl.getD i none = (wlS K N D n A (-1)).getD i none) : wl.set one (wishO K N D n one A) = wlS K N D n A (-1) := by
  have l2 : (wlS K N D n A (-1)).length = 7 := by simp [wlS]
  refine List.ext_getElem? (fun i => ?_)
  by_cases hi : i < 7
  · have e : (wlS K N D n A (-1))[i]? = some ((wlS K N D n A (-1)).getD i none) := by
      rw [List.getD_eq_getElem?_getD, List.getElem?_eq_getElem (by rw [l2]; exact hi)]
      rfl
    rw [e, List.getElem?_set]
    by_cases q : one = i
    · subst q
      rw [if_pos rfl, if_pos (by rw [hl]; exact h1), wlS_get h1, if_pos ⟨hA, by rw [show (-1 : Int32).toInt = -1 from by decide]; omega⟩]
    · rw [if_neg q, ← h i hi (fun z => q z.symm), List.getD_eq_getElem?_getD, List.getElem?_eq_getElem (by rw [hl]; exact hi)]
      rfl
  · rw [List.getElem?_eq_none (by rw [List.length_set, hl]; omega), List.getElem?_eq_none (by rw [l2]; omega)]
/-- a told table is laid; all wishes but one's are those that K N D tell -/
def SeW (σ : ZS) (A m one : Nat) (r : Bool) (K N D : List Nat) (n : Nat) (t0 : List Nat) : Prop := ∃ (bw jd fd en : Int32) (t B : List Nat) (wl : List (Option Nat)) (Wo Ho : List Int32), Se σ bw (nI A) (nI m) (bI r) jd fd en (t.map nI) (wl.map oI) (B.map nI) Wo Ho ∧ T7 t ∧ T7 B ∧ EqM m t t0 ∧ wl.length = 7 ∧ ∀ i, i < 7 → i ≠ one → wl.getD i none = (wlS K N D n A (-1)).getD i none
set_option maxHeartbeats 4000000 in
theorem c_wouldFit {σ : ZS} {tx ik : Int32} (k0 : zg σ 0 = some (.inr (.inr (6, [.ref 1, .ref 6, .ref 11, .ref 16, .ref 22, .ref 28, .ref 31, .int tx, .int ik])))) {rr dn ru n : Nat} {K N : List Nat} {W : List Int32} {D : List Nat} (hT : Pa σ 11 (nI rr) (nI dn) (nI ru) n K N W D) {A m one : Nat} {t0 : List Nat} (hW : SeW σ A m one (decide (rr = 1)) K N D n t0) (hm : m ≤ 7) (h1 : one < 7) (hA1 : A.testBit one = true) (hA : A < 128) (hsA : setS t0 m = A) : Cn 3 M_X7_wouldFit 0 0 [.ref 0, .int (nI one)] σ (fun r9 σ' => r9 = some (.int (bI (decide (unlT rr n K N D m t0 (-1) = none)))) ∧ SeT σ' A m (decide (rr = 1)) (wlS K N D n A (-1)) t0 ∧ Fr (fun i => i = 24) σ σ') := by
  obtain ⟨bw, jd, fd, en, t, B, wl, Wo, Ho, hSe, ht, hB, hE, hwl, hrow⟩ := hW
  have hn7 := hT.2.2.2.2.2.1
  have hf7 : ∀ w, (ffrom (fun s => !contB (decide (rr = 1)) m t0 (wlS K N D n A (-1)) s) m 0) = some w → w < 7 := fun w hw => by have := ffrom_lt _ _ hw; omega
  refine Cn.intro (lv0 := [some (.ref 0), some (.int (nI one))]) rfl (Nat.le_of_ble_eq_true rfl) rfl (fun d hd => ?_)
  refine x_aload_n dX7_wouldFit_0 rfl ?_
  refine x_get (v := .ref 22) f_X7_32 k0 rfl dX7_wouldFit_1 ?_
  refine x_get (v := .ref 24) f_X7_267 hSe.1 rfl dX7_wouldFit_4 ?_
  refine x_iload_n dX7_wouldFit_7 rfl ?_
  refine x_aload_n dX7_wouldFit_8 rfl ?_
  refine x_get (v := .ref 11) f_X7_19 k0 rfl dX7_wouldFit_9 ?_
  refine x_iload_n dX7_wouldFit_12 rfl ?_
  refine x_aload_n dX7_wouldFit_13 rfl ?_
  refine x_get (v := .ref 22) f_X7_32 k0 rfl dX7_wouldFit_14 ?_
  refine x_get (v := .int (nI A)) f_X7_270 hSe.1 rfl dX7_wouldFit_17 ?_
  refine x_callV m_X2_wish l_X7_128 (c_wish hT h1 (by omega)) rfl hT.1 (by omega) rfl rfl (Nat.le_of_ble_eq_true rfl) ⟨Nat.le_refl _, Nat.le_refl _⟩ dX7_wouldFit_20 (fun r1 s1 q1 => ?_)
  obtain ⟨rfl, eq1⟩ := q1
  obtain rfl := eq1.symm
  refine x_stk (st' := [.int ((oI (wishO K N D n one A))), .int (nI one), .ref 24]) rfl ?_
  refine x_iastK (n := one) hSe.2.2.1 rfl (by rw [List.length_map, hwl]; omega) dX7_wouldFit_23 (fun sw2 gw2 Fw2 => ?_)
  have gx := gw2
  rw [← List.map_set, wlS_put hwl h1 hA1 hrow] at gx
  have hT9 : SeT sw2 A m (decide (rr = 1)) (wlS K N D n A (-1)) t0 := ⟨bw, jd, fd, en, t, B, Wo, Ho, ⟨(Fw2.at (by omega) hSe.1), Fw2.at (by omega) hSe.2.1, gx, Fw2.at (by omega) hSe.2.2.2.1, Fw2.at (by omega) hSe.2.2.2.2.1, Fw2.at (by omega) hSe.2.2.2.2.2.1, hSe.2.2.2.2.2.2.1, by rw [List.length_map]; exact (wlS_ok hn7).1, hSe.2.2.2.2.2.2.2.2⟩, ht, hB, hE⟩
  refine x_aload_n dX7_wouldFit_24 rfl ?_
  refine x_get (v := .ref 22) f_X7_32 (Fw2.at (by omega) k0) rfl dX7_wouldFit_25 ?_
  refine x_callV m_X5_firstWronged l_X7_161 (c_fwT hT9 hm (wlS_ok hn7)) rfl (Fw2.at (by omega) hSe.1) (by omega) rfl rfl (Nat.le_of_ble_eq_true rfl) ⟨Nat.le_refl _, Nat.le_refl _⟩ dX7_wouldFit_28 (fun r3 s3 q3 => ?_)
  obtain ⟨rfl, eq3⟩ := q3
  obtain rfl := eq3.symm
  refine x_stk (st' := [.int ((oI (ffrom (fun s => !contB (decide (rr = 1)) m t0 (wlS K N D n A (-1)) s) m 0)))]) rfl ?_
  refine x_iconst (v := (-1)) dX7_wouldFit_31 (by decide) ?_
  refine x_icmpT_ne (p := ((oI (ffrom (fun s => !contB (decide (rr = 1)) m t0 (wlS K N D n A (-1)) s) m 0))).toInt) (q := (-1)) (tgt := 39) rfl (by decide) dX7_wouldFit_32 (by decide) (fun hv4 => ?_) (fun hv4 => ?_)
  · refine x_iconst (v := nI 0) dX7_wouldFit_39 (by decide) ?_
    exact x_zret ⟨Nat.le_refl _, Nat.le_refl _⟩ rfl (by decide) dX7_wouldFit_40 ⟨by rw [decide_eq_false (fun q => hv4 ((oI_m1 hf7).mpr ((show unlT rr n K N D m t0 (-1) = (ffrom (fun s => !contB (decide (rr = 1)) m t0 (wlS K N D n A (-1)) s) m 0) from by rw [unlT, hsA]).symm.trans q)))]; rfl, hT9, (Fr.rf.tr (Fw2.mono (fun i hi => by omega)))⟩
  · refine x_iconst (v := nI 1) dX7_wouldFit_35 (by decide) ?_
    refine x_goto (tgt := 40) dX7_wouldFit_36 (by decide) ?_
    exact x_zret ⟨Nat.le_refl _, Nat.le_refl _⟩ rfl (by decide) dX7_wouldFit_40 ⟨by rw [decide_eq_true ((show unlT rr n K N D m t0 (-1) = (ffrom (fun s => !contB (decide (rr = 1)) m t0 (wlS K N D n A (-1)) s) m 0) from by rw [unlT, hsA]).trans ((oI_m1 hf7).mp hv4))]; rfl, hT9, (Fr.rf.tr (Fw2.mono (fun i hi => by omega)))⟩
