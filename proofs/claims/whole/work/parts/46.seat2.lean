theorem zb0 : narrow .boolean (.int (nI 0)) = .int (nI 0) ∧ fits .boolean (.int (nI 0)) = true := by decide
theorem zb1 : narrow .boolean (.int (nI 1)) = .int (nI 1) ∧ fits .boolean (.int (nI 1)) = true := by decide
set_option maxHeartbeats 4000000 in
theorem c_countUpTo {σ : ZS} {bw jd fd en : Int32} {A m : Nat} {r : Bool} {t B : List Nat} {wl : List (Option Nat)} {Wo Ho : List Int32} (h : Se σ bw (nI A) (nI m) (bI r) jd fd en (t.map nI) (wl.map oI) (B.map nI) Wo Ho) (hm : m ≤ 7) (ht : T7 t) (hw : W7 wl) (hB : T7 B) (hA : A < 128) {mo : Int32} : Cn 11 M_X5_countUpTo 0 0 [.ref 22, .int mo] σ (fun r9 σ' => r9 = some (.int (plS r false A m wl Wo Ho mo m 0 0 (nI 0) (t, B, bw, nI 0)).2.2.2) ∧ SeQ σ' r false A m wl Wo Ho mo (plS r false A m wl Wo Ho mo m 0 0 (nI 0) (t, B, bw, nI 0)) ∧ Q7 (plS r false A m wl Wo Ho mo m 0 0 (nI 0) (t, B, bw, nI 0)) ∧ Fr (fun i => 22 ≤ i ∧ i ≤ 25) σ σ') := by
  obtain ⟨e0, e1, e2, e3, e4, e5, l1, l2, l3, l4, l5⟩ := id h
  obtain ⟨ht7, htb⟩ := id ht
  obtain ⟨hw7, hwb⟩ := id hw
  obtain ⟨hB7, hBb⟩ := id hB
  refine Cn.intro (lv0 := [some (.ref 22), some (.int mo)]) rfl (Nat.le_of_ble_eq_true rfl) rfl (fun d hd => ?_)
  refine x_aload_n dX5_countUpTo_0 rfl ?_
  refine x_iconst (v := nI 0) dX5_countUpTo_1 (by decide) ?_
  refine x_putK f_X5_82 e0 (Nat.le_of_ble_eq_true rfl) (fun c => zb0) dX5_countUpTo_2 (fun sw1 gw1 Fw1 => ?_)
  refine x_aload_n dX5_countUpTo_5 rfl ?_
  refine x_iconst (v := nI 0) dX5_countUpTo_6 (by decide) ?_
  refine x_putK f_X5_85 gw1 (Nat.le_of_ble_eq_true rfl) (fun c => ⟨rfl, rfl⟩) dX5_countUpTo_7 (fun sw2 gw2 Fw2 => ?_)
  refine x_aload_n dX5_countUpTo_10 rfl ?_
  refine x_iload_n dX5_countUpTo_11 rfl ?_
  refine x_putK f_X5_88 gw2 (Nat.le_of_ble_eq_true rfl) (fun c => ⟨rfl, rfl⟩) dX5_countUpTo_12 (fun sw3 gw3 Fw3 => ?_)
  refine x_aload_n dX5_countUpTo_15 rfl ?_
  refine x_iconst (v := nI 0) dX5_countUpTo_16 (by decide) ?_
  refine x_iconst (v := nI 0) dX5_countUpTo_17 (by decide) ?_
  refine x_iconst (v := nI 0) dX5_countUpTo_18 (by decide) ?_
  refine x_callV m_X5_place l_X5_91 (c_place (j := false) hm hA hw m 0 0 (nI 0) (t, B, bw, nI 0) sw3 (by omega) (by omega) ⟨gw3, (Fw3.at (by omega) (Fw2.at (by omega) (Fw1.at (by omega) e1))), (Fw3.at (by omega) (Fw2.at (by omega) (Fw1.at (by omega) e2))), (Fw3.at (by omega) (Fw2.at (by omega) (Fw1.at (by omega) e3))), (Fw3.at (by omega) (Fw2.at (by omega) (Fw1.at (by omega) e4))), (Fw3.at (by omega) (Fw2.at (by omega) (Fw1.at (by omega) e5))), (by first | assumption | (simp only [List.length_map, List.length_set, cpN_len] <;> assumption)), (by first | assumption | (simp only [List.length_map, List.length_set, cpN_len] <;> assumption)), (by first | assumption | (simp only [List.length_map, List.length_set, cpN_len] <;> assumption)), (by first | assumption | (simp only [List.length_map, List.length_set, cpN_len] <;> assumption)), (by first | assumption | (simp only [List.length_map, List.length_set, cpN_len] <;> assumption))⟩ ⟨ht, hB⟩) rfl gw3 (by omega) rfl rfl (Nat.le_of_ble_eq_true rfl) ⟨Nat.le_refl _, Nat.le_refl _⟩ dX5_countUpTo_19 (fun r4 s4 q4 => ?_)
  obtain ⟨rfl, hq4, h74, F4⟩ := q4
  refine x_stk (st' := []) rfl ?_
  refine x_aload_n dX5_countUpTo_22 rfl ?_
  refine x_get (v := .int ((plS r false A m wl Wo Ho mo m 0 0 (nI 0) (t, B, bw, nI 0)).2.2.2)) f_X5_85 hq4.1 rfl dX5_countUpTo_23 ?_
  exact x_iret ⟨Nat.le_refl _, Nat.le_refl _⟩ rfl dX5_countUpTo_26 ⟨rfl, hq4, h74, ((((Fr.rf.tr (Fw1.mono (fun i hi => by omega))).tr (Fw2.mono (fun i hi => by omega))).tr (Fw3.mono (fun i hi => by omega))).tr (F4.mono (fun i hi => by omega)))⟩
set_option maxHeartbeats 4000000 in
theorem c_findBest {σ : ZS} {bw jd fd en : Int32} {A m : Nat} {r : Bool} {t B : List Nat} {wl : List (Option Nat)} {Wo Ho : List Int32} (h : Se σ bw (nI A) (nI m) (bI r) jd fd en (t.map nI) (wl.map oI) (B.map nI) Wo Ho) (hm : m ≤ 7) (ht : T7 t) (hw : W7 wl) (hB : T7 B) (hA : A < 128) : Cn 11 M_X5_findBest 0 0 [.ref 22] σ (fun r9 σ' => r9 = some (.int (bI (decide (0 < (plS r true A m wl Wo Ho (nI 2147483647) m 0 0 (nI 0) (t, B, nI 0, nI 0)).2.2.2.toInt)))) ∧ SeQ σ' r true A m wl Wo Ho (nI 2147483647) (plS r true A m wl Wo Ho (nI 2147483647) m 0 0 (nI 0) (t, B, (nI 0), nI 0)) ∧ Q7 (plS r true A m wl Wo Ho (nI 2147483647) m 0 0 (nI 0) (t, B, (nI 0), nI 0)) ∧ Fr (fun i => 22 ≤ i ∧ i ≤ 25) σ σ') := by
  obtain ⟨e0, e1, e2, e3, e4, e5, l1, l2, l3, l4, l5⟩ := id h
  obtain ⟨ht7, htb⟩ := id ht
  obtain ⟨hw7, hwb⟩ := id hw
  obtain ⟨hB7, hBb⟩ := id hB
  refine Cn.intro (lv0 := [some (.ref 22)]) rfl (Nat.le_of_ble_eq_true rfl) rfl (fun d hd => ?_)
  refine x_aload_n dX5_findBest_0 rfl ?_
  refine x_iconst (v := nI 1) dX5_findBest_1 (by decide) ?_
  refine x_putK f_X5_82 e0 (Nat.le_of_ble_eq_true rfl) (fun c => zb1) dX5_findBest_2 (fun sw1 gw1 Fw1 => ?_)
  refine x_aload_n dX5_findBest_5 rfl ?_
  refine x_iconst (v := nI 0) dX5_findBest_6 (by decide) ?_
  refine x_putK f_X5_85 gw1 (Nat.le_of_ble_eq_true rfl) (fun c => ⟨rfl, rfl⟩) dX5_findBest_7 (fun sw2 gw2 Fw2 => ?_)
  refine x_aload_n dX5_findBest_10 rfl ?_
  refine x_ldc (v := (2147483647)) c_X5_95 dX5_findBest_11 ?_
  refine x_topi (y := nI 2147483647) (by decide) ?_
  refine x_putK f_X5_88 gw2 (Nat.le_of_ble_eq_true rfl) (fun c => ⟨rfl, rfl⟩) dX5_findBest_13 (fun sw3 gw3 Fw3 => ?_)
  refine x_aload_n dX5_findBest_16 rfl ?_
  refine x_iconst (v := nI 0) dX5_findBest_17 (by decide) ?_
  refine x_putK f_X5_96 gw3 (Nat.le_of_ble_eq_true rfl) (fun c => ⟨rfl, rfl⟩) dX5_findBest_18 (fun sw4 gw4 Fw4 => ?_)
  refine x_aload_n dX5_findBest_21 rfl ?_
  refine x_iconst (v := nI 0) dX5_findBest_22 (by decide) ?_
  refine x_iconst (v := nI 0) dX5_findBest_23 (by decide) ?_
  refine x_iconst (v := nI 0) dX5_findBest_24 (by decide) ?_
  refine x_callV m_X5_place l_X5_91 (c_place (j := true) hm hA hw m 0 0 (nI 0) (t, B, (nI 0), nI 0) sw4 (by omega) (by omega) ⟨gw4, (Fw4.at (by omega) (Fw3.at (by omega) (Fw2.at (by omega) (Fw1.at (by omega) e1)))), (Fw4.at (by omega) (Fw3.at (by omega) (Fw2.at (by omega) (Fw1.at (by omega) e2)))), (Fw4.at (by omega) (Fw3.at (by omega) (Fw2.at (by omega) (Fw1.at (by omega) e3)))), (Fw4.at (by omega) (Fw3.at (by omega) (Fw2.at (by omega) (Fw1.at (by omega) e4)))), (Fw4.at (by omega) (Fw3.at (by omega) (Fw2.at (by omega) (Fw1.at (by omega) e5)))), (by first | assumption | (simp only [List.length_map, List.length_set, cpN_len] <;> assumption)), (by first | assumption | (simp only [List.length_map, List.length_set, cpN_len] <;> assumption)), (by first | assumption | (simp only [List.length_map, List.length_set, cpN_len] <;> assumption)), (by first | assumption | (simp only [List.length_map, List.length_set, cpN_len] <;> assumption)), (by first | assumption | (simp only [List.length_map, List.length_set, cpN_len] <;> assumption))⟩ ⟨ht, hB⟩) rfl gw4 (by omega) rfl rfl (Nat.le_of_ble_eq_true rfl) ⟨Nat.le_refl _, Nat.le_refl _⟩ dX5_findBest_25 (fun r5 s5 q5 => ?_)
  obtain ⟨rfl, hq5, h75, F5⟩ := q5
  refine x_stk (st' := []) rfl ?_
  refine x_aload_n dX5_findBest_28 rfl ?_
  refine x_get (v := .int ((plS r true A m wl Wo Ho (nI 2147483647) m 0 0 (nI 0) (t, B, (nI 0), nI 0)).2.2.2)) f_X5_85 hq5.1 rfl dX5_findBest_29 ?_
  refine x_ifT_le (p := ((plS r true A m wl Wo Ho (nI 2147483647) m 0 0 (nI 0) (t, B, (nI 0), nI 0)).2.2.2).toInt) (tgt := 39) rfl dX5_findBest_32 (by decide) (fun hv6 => ?_) (fun hv6 => ?_)
  · refine x_iconst (v := nI 0) dX5_findBest_39 (by decide) ?_
    exact x_zret ⟨Nat.le_refl _, Nat.le_refl _⟩ rfl (by decide) dX5_findBest_40 ⟨by rw [bI_0 (by omega)], hq5, h75, (((((Fr.rf.tr (Fw1.mono (fun i hi => by omega))).tr (Fw2.mono (fun i hi => by omega))).tr (Fw3.mono (fun i hi => by omega))).tr (Fw4.mono (fun i hi => by omega))).tr (F5.mono (fun i hi => by omega)))⟩
  · refine x_iconst (v := nI 1) dX5_findBest_35 (by decide) ?_
    refine x_goto (tgt := 40) dX5_findBest_36 (by decide) ?_
    exact x_zret ⟨Nat.le_refl _, Nat.le_refl _⟩ rfl (by decide) dX5_findBest_40 ⟨by rw [bI_1 (by omega)], hq5, h75, (((((Fr.rf.tr (Fw1.mono (fun i hi => by omega))).tr (Fw2.mono (fun i hi => by omega))).tr (Fw3.mono (fun i hi => by omega))).tr (Fw4.mono (fun i hi => by omega))).tr (F5.mono (fun i hi => by omega)))⟩
def dgS (B : List Nat) : Nat → Nat
  | 0 => 0
  | k + 1 => dgS B k * 10 + B.getD k 0 + 1
theorem dgS_le {B : List Nat} (h : T7 B) : ∀ k, dgS B k < 10 ^ k
  | 0 => Nat.zero_lt_one
  | k + 1 => by
    have h1 := dgS_le h k
    have h2 := h.2 k
    rw [dgS, Nat.pow_succ]
    omega
set_option maxHeartbeats 4000000 in
theorem l_digits {σ : ZS} {bw jd fd en : Int32} {A m : Nat} {r : Bool} {t B : List Nat} {wl : List (Option Nat)} {Wo Ho : List Int32} (h : Se σ bw (nI A) (nI m) (bI r) jd fd en (t.map nI) (wl.map oI) (B.map nI) Wo Ho) (hm : m ≤ 7) (ht : T7 t) (hw : W7 wl) (hB : T7 B) {d : Nat} (hd : 0 ≤ d) : ∀ (q k : Nat), k + q = m → X M_X5_digits d 0 0 (fun r9 σ' => r9 = some (.int (nI (dgS B m))) ∧ σ' = σ) 0 0 4 [some (.ref 22), some (.int (nI ((dgS B k)))), some (.int (nI k))] [] σ := by
  obtain ⟨e0, e1, e2, e3, e4, e5, l1, l2, l3, l4, l5⟩ := id h
  obtain ⟨ht7, htb⟩ := id ht
  obtain ⟨hw7, hwb⟩ := id hw
  obtain ⟨hB7, hBb⟩ := id hB
  intro q
  induction q with
  | zero =>
    intro k hk
    refine x_iload_n dX5_digits_4 rfl ?_
    refine x_aload_n dX5_digits_5 rfl ?_
    refine x_get (v := .int (nI m)) f_X5_37 e0 rfl dX5_digits_6 ?_
    refine x_icmpN_ge (tgt := 32) dX5_digits_9 (by decide) (by omega) (by omega) (fun hv1 => ?_) (fun hv1 => ?_)
    · refine x_iload_n dX5_digits_32 rfl ?_
      exact x_iret ⟨Nat.le_refl _, Nat.le_refl _⟩ rfl dX5_digits_33 ⟨by rw [show k = m by omega], rfl⟩
    · exact absurd hv1 (by omega)
  | succ q ih =>
    intro k hk
    refine x_iload_n dX5_digits_4 rfl ?_
    refine x_aload_n dX5_digits_5 rfl ?_
    refine x_get (v := .int (nI m)) f_X5_37 e0 rfl dX5_digits_6 ?_
    refine x_icmpN_ge (tgt := 32) dX5_digits_9 (by decide) (by omega) (by omega) (fun hv1 => ?_) (fun hv1 => ?_)
    · exact absurd hv1 (by omega)
    · refine x_iload_n dX5_digits_12 rfl ?_
      refine x_bipush (v := nI 10) dX5_digits_13 (by decide) ?_
      refine x_imulN dX5_digits_15 ?_
      refine x_aload_n dX5_digits_16 rfl ?_
      refine x_get (v := .ref 25) f_X5_18 e0 rfl dX5_digits_17 ?_
      refine x_iload_n dX5_digits_20 rfl ?_
      refine x_iald (n := k) e3 rfl (by rw [l3]; omega) dX5_digits_21 ?_
      refine x_topi (y := nI ((B.getD k 0))) gm_getD ?_
      refine x_iaddN dX5_digits_22 ?_
      refine x_iconst (v := nI 1) dX5_digits_23 (by decide) ?_
      refine x_iaddN dX5_digits_24 ?_
      refine x_istore_n dX5_digits_25 (by decide) rfl ?_
      refine x_lv (lv' := [some (.ref 22), some (.int (nI (((((dgS B k)) * 10) + ((B.getD k 0))) + 1))), some (.int (nI k))]) rfl ?_
      refine x_iincN dX5_digits_26 rfl (by decide) rfl ?_
      refine x_lv (lv' := [some (.ref 22), some (.int (nI (((((dgS B k)) * 10) + ((B.getD k 0))) + 1))), some (.int (nI (k + 1)))]) rfl ?_
      refine x_goto (tgt := 4) dX5_digits_29 (by decide) ?_
      exact ih (k + 1) (by omega)
set_option maxHeartbeats 4000000 in
theorem c_digits {σ : ZS} {bw jd fd en : Int32} {A m : Nat} {r : Bool} {t B : List Nat} {wl : List (Option Nat)} {Wo Ho : List Int32} (h : Se σ bw (nI A) (nI m) (bI r) jd fd en (t.map nI) (wl.map oI) (B.map nI) Wo Ho) (hm : m ≤ 7) (ht : T7 t) (hw : W7 wl) (hB : T7 B) : Cn 0 M_X5_digits 0 0 [.ref 22] σ (fun r9 σ' => r9 = some (.int (nI (dgS B m))) ∧ σ' = σ) := by
  obtain ⟨e0, e1, e2, e3, e4, e5, l1, l2, l3, l4, l5⟩ := id h
  obtain ⟨ht7, htb⟩ := id ht
  obtain ⟨hw7, hwb⟩ := id hw
  obtain ⟨hB7, hBb⟩ := id hB
  refine Cn.intro (lv0 := [some (.ref 22), none, none]) rfl (Nat.le_of_ble_eq_true rfl) rfl (fun d hd => ?_)
  refine x_iconst (v := nI 0) dX5_digits_0 (by decide) ?_
  refine x_istore_n dX5_digits_1 (by decide) rfl ?_
  refine x_lv (lv' := [some (.ref 22), some (.int (nI 0)), none]) rfl ?_
  refine x_iconst (v := nI 0) dX5_digits_2 (by decide) ?_
  refine x_istore_n dX5_digits_3 (by decide) rfl ?_
  refine x_lv (lv' := [some (.ref 22), some (.int (nI 0)), some (.int (nI 0))]) rfl ?_
  exact l_digits h hm ht hw hB hd m 0 (by omega)
set_option maxHeartbeats 4000000 in
theorem c_layBest {σ : ZS} {bw jd fd en : Int32} {A m : Nat} {r : Bool} {t B : List Nat} {wl : List (Option Nat)} {Wo Ho : List Int32} (h : Se σ bw (nI A) (nI m) (bI r) jd fd en (t.map nI) (wl.map oI) (B.map nI) Wo Ho) (hm : m ≤ 7) (ht : T7 t) (hw : W7 wl) (hB : T7 B) : Cn 1 M_X5_layBest 0 0 [.ref 22] σ (fun r9 σ' => r9 = none ∧ Se σ' bw (nI A) (nI m) (bI r) jd fd en ((cpN B t m).map nI) (wl.map oI) (B.map nI) Wo Ho ∧ Fr (fun i => 22 ≤ i ∧ i ≤ 25) σ σ') := by
  obtain ⟨e0, e1, e2, e3, e4, e5, l1, l2, l3, l4, l5⟩ := id h
  obtain ⟨ht7, htb⟩ := id ht
  obtain ⟨hw7, hwb⟩ := id hw
  obtain ⟨hB7, hBb⟩ := id hB
  refine Cn.intro (lv0 := [some (.ref 22)]) rfl (Nat.le_of_ble_eq_true rfl) rfl (fun d hd => ?_)
  refine x_aload_n dX5_layBest_0 rfl ?_
  refine x_get (v := .ref 25) f_X5_18 e0 rfl dX5_layBest_1 ?_
  refine x_iconst (v := nI 0) dX5_layBest_4 (by decide) ?_
  refine x_aload_n dX5_layBest_5 rfl ?_
  refine x_get (v := .ref 23) f_X5_9 e0 rfl dX5_layBest_6 ?_
  refine x_iconst (v := nI 0) dX5_layBest_9 (by decide) ?_
  refine x_aload_n dX5_layBest_10 rfl ?_
  refine x_get (v := .int (nI m)) f_X5_37 e0 rfl dX5_layBest_11 ?_
  refine x_copyK l_X5_113 e3 e1 rfl rfl rfl (by simp only [List.length_map]; omega) (by simp only [List.length_map]; omega) (by omega) (Nat.le_of_ble_eq_true rfl) dX5_layBest_14 (fun sw1 gw1 Fw1 => ?_)
  rw [zcpy_N (by assumption) (by assumption) hm] at gw1
  exact x_vret ⟨Nat.le_refl _, Nat.le_refl _⟩ rfl dX5_layBest_17 ⟨rfl, ⟨(Fw1.at (by omega) e0), gw1, (Fw1.at (by omega) e2), (Fw1.at (by omega) e3), (Fw1.at (by omega) e4), (Fw1.at (by omega) e5), (by first | assumption | (simp only [List.length_map, List.length_set, cpN_len] <;> assumption)), (by first | assumption | (simp only [List.length_map, List.length_set, cpN_len] <;> assumption)), (by first | assumption | (simp only [List.length_map, List.length_set, cpN_len] <;> assumption)), (by first | assumption | (simp only [List.length_map, List.length_set, cpN_len] <;> assumption)), (by first | assumption | (simp only [List.length_map, List.length_set, cpN_len] <;> assumption))⟩, (Fr.rf.tr (Fw1.mono (fun i hi => by omega)))⟩
theorem rep_set {a : List Int32} {k : Nat} {v : Int32} (h : k < a.length) : (List.replicate k v ++ a.drop k).set k v = List.replicate (k + 1) v ++ a.drop (k + 1) := by
  rw [List.set_append_right _ _ (by simp), List.length_replicate, Nat.sub_self, List.drop_eq_getElem_cons h, List.set_cons_zero, List.replicate_succ', List.append_assoc]
  rfl
set_option maxHeartbeats 4000000 in
theorem l_fill {σ0 : ZS} {p : Nat} {a : List Int32} {v : Int32} (hl : a.length < 1000) {d : Nat} (hd : 0 ≤ d) : ∀ (q k : Nat) (σ : ZS) (g0 : zg σ p = some (.inl (0, List.replicate k v ++ a.drop k))) (hF : Fr (fun i => i = p) σ0 σ), k + q = a.length → X M_J7_fill_53178 d 0 0 (fun r9 σ' => r9 = none ∧ zg σ' p = some (.inl (0, List.replicate a.length v)) ∧ Fr (fun i => i = p) σ0 σ') 0 0 5 [some (.ref p), some (.int v), some (.int (nI k)), some (.int (nI a.length))] [] σ := by
  intro q
  induction q with
  | zero =>
    intro k σ g0 hF hk
    refine x_iload_n dJ7_fill_53178_5 rfl ?_
    refine x_iload_n dJ7_fill_53178_6 rfl ?_
    refine x_icmpN_ge (tgt := 20) dJ7_fill_53178_7 (by decide) (by omega) (by omega) (fun hv1 => ?_) (fun hv1 => ?_)
    · exact x_vret ⟨Nat.le_refl _, Nat.le_refl _⟩ rfl dJ7_fill_53178_20 ⟨rfl, by rw [show k = a.length by omega] at g0; rw [List.drop_length, List.append_nil] at g0; exact g0, hF⟩
    · exact absurd hv1 (by omega)
  | succ q ih =>
    intro k σ g0 hF hk
    refine x_iload_n dJ7_fill_53178_5 rfl ?_
    refine x_iload_n dJ7_fill_53178_6 rfl ?_
    refine x_icmpN_ge (tgt := 20) dJ7_fill_53178_7 (by decide) (by omega) (by omega) (fun hv1 => ?_) (fun hv1 => ?_)
    · exact absurd hv1 (by omega)
    · refine x_aload_n dJ7_fill_53178_10 rfl ?_
      refine x_iload_n dJ7_fill_53178_11 rfl ?_
      refine x_iload_n dJ7_fill_53178_12 rfl ?_
      refine x_iastK (n := k) g0 rfl (by simp; omega) dJ7_fill_53178_13 (fun sw2 gw2 Fw2 => ?_)
      refine x_iincN dJ7_fill_53178_14 rfl (by decide) rfl ?_
      refine x_lv (lv' := [some (.ref p), some (.int v), some (.int (nI (k + 1))), some (.int (nI a.length))]) rfl ?_
      refine x_goto (tgt := 5) dJ7_fill_53178_17 (by decide) ?_
      exact ih (k + 1) sw2 (by rw [← rep_set (by omega)]; exact gw2) (hF.tr (Fr.rf.tr (Fw2.mono (fun i hi => by omega)))) (by omega)
set_option maxHeartbeats 4000000 in
theorem c_fill {σ : ZS} {p : Nat} {a : List Int32} {v : Int32} (g0 : zg σ p = some (.inl (0, a))) (hl : a.length < 1000) : Cn 0 M_J7_fill_53178 0 0 [.ref p, .int v] σ (fun r9 σ' => r9 = none ∧ zg σ' p = some (.inl (0, List.replicate a.length v)) ∧ Fr (fun i => i = p) σ σ') := by
  refine Cn.intro (lv0 := [some (.ref p), some (.int v), none, none]) rfl (Nat.le_of_ble_eq_true rfl) rfl (fun d hd => ?_)
  refine x_iconst (v := nI 0) dJ7_fill_53178_0 (by decide) ?_
  refine x_istore_n dJ7_fill_53178_1 (by decide) rfl ?_
  refine x_lv (lv' := [some (.ref p), some (.int v), some (.int (nI 0)), none]) rfl ?_
  refine x_aload_n dJ7_fill_53178_2 rfl ?_
  refine x_alen (by decide) g0 dJ7_fill_53178_3 ?_
  refine x_istore_n dJ7_fill_53178_4 (by decide) rfl ?_
  refine x_lv (lv' := [some (.ref p), some (.int v), some (.int (nI 0)), some (.int (nI a.length))]) rfl ?_
  exact l_fill hl hd a.length 0 σ g0 Fr.rf (by omega)
theorem wi_ext {Wi : List Int32} {wl : List (Option Nat)} (h1 : Wi.length = 7) (h2 : wl.length = 7) (h : ∀ i, i < 7 → Wi.getD i 0 = oI (wl.getD i none)) : Wi = wl.map oI := by
  refine List.ext_getElem? (fun i => ?_)
  by_cases hi : i < 7
  · have e := h i hi
    rw [← gm_oI (by omega), List.getD_eq_getElem?_getD, List.getD_eq_getElem?_getD, List.getElem?_eq_getElem (by omega), List.getElem?_eq_getElem (by simp; omega)] at e
    rw [List.getElem?_eq_getElem (by omega), List.getElem?_eq_getElem (by simp; omega)]
    exact congrArg some e
  · rw [List.getElem?_eq_none (by omega), List.getElem?_eq_none (by simp; omega)]
theorem gset {l : List Int32} {k i : Nat} {v : Int32} (h : k < l.length) : (l.set k v).getD i 0 = if i = k then v else l.getD i 0 := by
  rw [List.getD_eq_getElem?_getD, List.getElem?_set]
  by_cases e : i = k
  · rw [if_pos e.symm, if_pos h, if_pos e]; rfl
  · rw [if_neg (fun q => e q.symm), if_neg e, List.getD_eq_getElem?_getD]
set_option maxHeartbeats 4000000 in
theorem l_invite {σ0 : ZS} {bw jd fd en : Int32} {T B Wo Ho : List Int32} {p : Nat} {di ru : Int32} {rr n : Nat} {K N : List Nat} {Wt : List Int32} {D : List Nat} {A : Nat} {e : Int32} {rd : Int32} (hp : p = 1 ∨ p = 11) (hA : A < 128) {d : Nat} (hd : 3 ≤ d) : ∀ (q k : Nat) (Wi : List Int32) (σ : ZS) (h : Se σ bw (nI A) (nI (popc A)) rd jd fd en T Wi B Wo Ho) (hP : Pa σ p (nI rr) di ru n K N Wt D) (hWi : ∀ i, i < k → Wi.getD i 0 = oI ((wlS K N D n A e).getD i none)) (hF : Fr (fun i => i = 22 ∨ i = 24) σ0 σ), k + q = 7 → X M_X5_invite d 0 0 (fun r9 σ' => r9 = none ∧ Se σ' bw (nI A) (nI (popc A)) rd jd fd en T ((wlS K N D n A e).map oI) B Wo Ho ∧ Fr (fun i => i = 22 ∨ i = 24) σ0 σ') 0 0 33 [some (.ref 22), some (.ref p), some (.int (nI A)), some (.int e), some (.int (nI k)), none] [] σ := by
  intro q
  induction q with
  | zero =>
    intro k Wi σ h hP hWi hF hk
    obtain ⟨e0, e1, e2, e3, e4, e5, l1, l2, l3, l4, l5⟩ := id h
    obtain ⟨g0, -⟩ := id hP
    refine x_iload dX5_invite_33 rfl ?_
    refine x_bipush (v := nI 7) dX5_invite_35 (by decide) ?_
    refine x_icmpN_ge (tgt := 91) dX5_invite_37 (by decide) (by omega) (by omega) (fun hv1 => ?_) (fun hv1 => ?_)
    · exact x_vret ⟨Nat.le_refl _, Nat.le_refl _⟩ rfl dX5_invite_91 ⟨rfl, by rw [← wi_ext l2 (wlS_ok hP.2.2.2.2.2.1).1 (fun i hi => hWi i (by omega))]; exact h, hF⟩
    · exact absurd hv1 (by omega)
  | succ q ih =>
    intro k Wi σ h hP hWi hF hk
    obtain ⟨e0, e1, e2, e3, e4, e5, l1, l2, l3, l4, l5⟩ := id h
    obtain ⟨g0, -⟩ := id hP
    refine x_iload dX5_invite_33 rfl ?_
    refine x_bipush (v := nI 7) dX5_invite_35 (by decide) ?_
    refine x_icmpN_ge (tgt := 91) dX5_invite_37 (by decide) (by omega) (by omega) (fun hv1 => ?_) (fun hv1 => ?_)
    · exact absurd hv1 (by omega)
    · refine x_iload_n dX5_invite_40 rfl ?_
      refine x_iload dX5_invite_41 rfl ?_
      refine x_callS m_X2_isIn l_X5_48 (c_isIn (by omega) (by omega)) (by omega) rfl rfl (Nat.le_of_ble_eq_true rfl) ⟨Nat.le_refl _, Nat.le_refl _⟩ dX5_invite_43 (fun r2 s2 q2 => ?_)
      obtain ⟨rfl, eq2⟩ := q2
      obtain rfl := eq2.symm
      refine x_stk (st' := [.int (bI ((A.testBit k)))]) rfl ?_
      refine x_ifB_eq (tgt := 59) dX5_invite_46 (by decide) (fun hv3 => ?_) (fun hv3 => ?_)
      · refine x_iconst (v := nI 0) dX5_invite_59 (by decide) ?_
        refine x_istore dX5_invite_60 (by decide) rfl ?_
        refine x_lv (lv' := [some (.ref 22), some (.ref p), some (.int (nI A)), some (.int e), some (.int (nI k)), some (.int (nI 0))]) rfl ?_
        refine x_aload_n dX5_invite_62 rfl ?_
        refine x_get (v := .ref 24) f_X5_15 e0 rfl dX5_invite_63 ?_
        refine x_iload dX5_invite_66 rfl ?_
        refine x_iload dX5_invite_68 rfl ?_
        refine x_ifN_eq (tgt := 83) dX5_invite_70 (by decide) (by omega) (fun hv4 => ?_) (fun hv4 => ?_)
        · refine x_iconst (v := (-1)) dX5_invite_83 (by decide) ?_
          refine x_iastK (n := k) e2 rfl (by rw [l2]; omega) dX5_invite_84 (fun sw5 gw5 Fw5 => ?_)
          refine x_iincN dX5_invite_85 rfl (by decide) rfl ?_
          refine x_lv (lv' := [some (.ref 22), some (.ref p), some (.int (nI A)), some (.int e), some (.int (nI (k + 1))), some (.int (nI 0))]) rfl ?_
          refine x_goto (tgt := 33) dX5_invite_88 (by decide) ?_
          refine x_drop 5 ?_
          refine ih (k + 1) (Wi.set k (-1)) sw5 ⟨(Fw5.at (by omega) e0), (Fw5.at (by omega) e1), gw5, (Fw5.at (by omega) e3), (Fw5.at (by omega) e4), (Fw5.at (by omega) e5), l1, (by rw [List.length_set]; exact l2), l3, l4, l5⟩ (hP.fr Fw5 (by omega)) (fun i hi => ?_) (hF.tr (Fr.rf.tr (Fw5.mono (fun i hi => by omega)))) (by omega)
          rw [gset (by omega)]
          by_cases hik : i = k
          · rw [if_pos hik, hik, wlS_get (by omega), if_neg (fun q => absurd q.1 (by rw [hv3]; decide))]; rfl
          · rw [if_neg hik]; exact hWi i (by omega)
        · exact absurd hv4 (by decide)
      · refine x_iload dX5_invite_49 rfl ?_
        refine x_iload_n dX5_invite_51 rfl ?_
        refine x_icmpT_eq (p := ((k : Nat) : Int)) (q := (e).toInt) (tgt := 59) (nI_toInt (by omega)) rfl dX5_invite_52 (by decide) (fun hv6 => ?_) (fun hv6 => ?_)
        · refine x_iconst (v := nI 0) dX5_invite_59 (by decide) ?_
          refine x_istore dX5_invite_60 (by decide) rfl ?_
          refine x_lv (lv' := [some (.ref 22), some (.ref p), some (.int (nI A)), some (.int e), some (.int (nI k)), some (.int (nI 0))]) rfl ?_
          refine x_aload_n dX5_invite_62 rfl ?_
          refine x_get (v := .ref 24) f_X5_15 e0 rfl dX5_invite_63 ?_
          refine x_iload dX5_invite_66 rfl ?_
          refine x_iload dX5_invite_68 rfl ?_
          refine x_ifN_eq (tgt := 83) dX5_invite_70 (by decide) (by omega) (fun hv7 => ?_) (fun hv7 => ?_)
          · refine x_iconst (v := (-1)) dX5_invite_83 (by decide) ?_
            refine x_iastK (n := k) e2 rfl (by rw [l2]; omega) dX5_invite_84 (fun sw8 gw8 Fw8 => ?_)
            refine x_iincN dX5_invite_85 rfl (by decide) rfl ?_
            refine x_lv (lv' := [some (.ref 22), some (.ref p), some (.int (nI A)), some (.int e), some (.int (nI (k + 1))), some (.int (nI 0))]) rfl ?_
            refine x_goto (tgt := 33) dX5_invite_88 (by decide) ?_
            refine x_drop 5 ?_
            refine ih (k + 1) (Wi.set k (-1)) sw8 ⟨(Fw8.at (by omega) e0), (Fw8.at (by omega) e1), gw8, (Fw8.at (by omega) e3), (Fw8.at (by omega) e4), (Fw8.at (by omega) e5), l1, (by rw [List.length_set]; exact l2), l3, l4, l5⟩ (hP.fr Fw8 (by omega)) (fun i hi => ?_) (hF.tr (Fr.rf.tr (Fw8.mono (fun i hi => by omega)))) (by omega)
            rw [gset (by omega)]
            by_cases hik : i = k
            · rw [if_pos hik, hik, wlS_get (by omega), if_neg (fun q => q.2 hv6)]; rfl
            · rw [if_neg hik]; exact hWi i (by omega)
          · exact absurd hv7 (by decide)
        · refine x_iconst (v := nI 1) dX5_invite_55 (by decide) ?_
          refine x_goto (tgt := 60) dX5_invite_56 (by decide) ?_
          refine x_istore dX5_invite_60 (by decide) rfl ?_
          refine x_lv (lv' := [some (.ref 22), some (.ref p), some (.int (nI A)), some (.int e), some (.int (nI k)), some (.int (nI 1))]) rfl ?_
          refine x_aload_n dX5_invite_62 rfl ?_
          refine x_get (v := .ref 24) f_X5_15 e0 rfl dX5_invite_63 ?_
          refine x_iload dX5_invite_66 rfl ?_
          refine x_iload dX5_invite_68 rfl ?_
          refine x_ifN_eq (tgt := 83) dX5_invite_70 (by decide) (by omega) (fun hv9 => ?_) (fun hv9 => ?_)
          · exact absurd hv9 (by decide)
          · refine x_aload_n dX5_invite_73 rfl ?_
            refine x_iload dX5_invite_74 rfl ?_
            refine x_iload_n dX5_invite_76 rfl ?_
            refine x_callV m_X2_wish l_X5_52 (c_wish hP (by omega) (by omega)) rfl g0 (by omega) rfl rfl (Nat.le_of_ble_eq_true rfl) ⟨Nat.le_refl _, Nat.le_refl _⟩ dX5_invite_77 (fun r10 s10 q10 => ?_)
            obtain ⟨rfl, eq10⟩ := q10
            obtain rfl := eq10.symm
            refine x_stk (st' := [.int ((oI (wishO K N D n k A))), .int (nI k), .ref 24]) rfl ?_
            refine x_goto (tgt := 84) dX5_invite_80 (by decide) ?_
            refine x_iastK (n := k) e2 rfl (by rw [l2]; omega) dX5_invite_84 (fun sw11 gw11 Fw11 => ?_)
            refine x_iincN dX5_invite_85 rfl (by decide) rfl ?_
            refine x_lv (lv' := [some (.ref 22), some (.ref p), some (.int (nI A)), some (.int e), some (.int (nI (k + 1))), some (.int (nI 1))]) rfl ?_
            refine x_goto (tgt := 33) dX5_invite_88 (by decide) ?_
            refine x_drop 5 ?_
            refine ih (k + 1) (Wi.set k (oI (wishO K N D n k A))) sw11 ⟨(Fw11.at (by omega) e0), (Fw11.at (by omega) e1), gw11, (Fw11.at (by omega) e3), (Fw11.at (by omega) e4), (Fw11.at (by omega) e5), l1, (by rw [List.length_set]; exact l2), l3, l4, l5⟩ (hP.fr Fw11 (by omega)) (fun i hi => ?_) (hF.tr (Fr.rf.tr (Fw11.mono (fun i hi => by omega)))) (by omega)
            rw [gset (by omega)]
            by_cases hik : i = k
            · rw [if_pos hik, hik, wlS_get (by omega), if_pos ⟨hv3, hv6⟩]
            · rw [if_neg hik]; exact hWi i (by omega)
set_option maxHeartbeats 4000000 in
theorem c_invite {σ : ZS} {bw am sz rd jd fd en : Int32} {T Wi B Wo Ho : List Int32} {p : Nat} {di ru : Int32} {rr n : Nat} {K N : List Nat} {Wt : List Int32} {D : List Nat} {A : Nat} {e : Int32} (h : Se σ bw am sz rd jd fd en T Wi B Wo Ho) (hP : Pa σ p (nI rr) di ru n K N Wt D) (hr1 : rr ≤ 1) (hp : p = 1 ∨ p = 11) (hA : A < 128) : Cn 3 M_X5_invite 0 0 [.ref 22, .ref p, .int (nI A), .int e] σ (fun r9 σ' => r9 = none ∧ Se σ' bw (nI A) (nI (popc A)) (bI (decide (rr = 1))) jd fd en T ((wlS K N D n A e).map oI) B Wo Ho ∧ Fr (fun i => i = 22 ∨ i = 24) σ σ') := by
  obtain ⟨e0, e1, e2, e3, e4, e5, l1, l2, l3, l4, l5⟩ := id h
  obtain ⟨g0, -⟩ := id hP
  refine Cn.intro (lv0 := [some (.ref 22), some (.ref p), some (.int (nI A)), some (.int e), none, none]) rfl (Nat.le_of_ble_eq_true rfl) rfl (fun d hd => ?_)
  refine x_aload_n dX5_invite_0 rfl ?_
  refine x_iload_n dX5_invite_1 rfl ?_
  refine x_putK f_X5_27 e0 (Nat.le_of_ble_eq_true rfl) (fun c => ⟨rfl, rfl⟩) dX5_invite_2 (fun sw1 gw1 Fw1 => ?_)
  refine x_aload_n dX5_invite_5 rfl ?_
  refine x_iload_n dX5_invite_6 rfl ?_
  refine x_callS m_J6_bitCount_0f7a4 l_X5_31 (c_bitCount hA) (by omega) rfl rfl (Nat.le_of_ble_eq_true rfl) ⟨Nat.le_refl _, Nat.le_refl _⟩ dX5_invite_7 (fun r2 s2 q2 => ?_)
  obtain ⟨rfl, eq2⟩ := q2
  obtain rfl := eq2.symm
  refine x_stk (st' := [.int (nI ((popc A))), .ref 22]) rfl ?_
  refine x_putK f_X5_37 gw1 (Nat.le_of_ble_eq_true rfl) (fun c => ⟨rfl, rfl⟩) dX5_invite_10 (fun sw3 gw3 Fw3 => ?_)
  refine x_aload_n dX5_invite_13 rfl ?_
  refine x_aload_n dX5_invite_14 rfl ?_
  refine x_get (v := .int (nI rr)) f_X5_40 (Fw3.at (by omega) (Fw1.at (by omega) g0)) rfl dX5_invite_15 ?_
  refine x_iconst (v := nI 1) dX5_invite_18 (by decide) ?_
  refine x_icmpN_ne (tgt := 26) dX5_invite_19 (by decide) (by omega) (by omega) (fun hv4 => ?_) (fun hv4 => ?_)
  · refine x_iconst (v := nI 0) dX5_invite_26 (by decide) ?_
    refine x_topi (y := bI (decide (rr = 1))) (bI_0 (by omega)).symm ?_
    refine x_putK f_X5_45 gw3 (Nat.le_of_ble_eq_true rfl) (fun c => ⟨bI_nar _, bI_fit _⟩) dX5_invite_27 (fun sw5 gw5 Fw5 => ?_)
    refine x_iconst (v := nI 0) dX5_invite_30 (by decide) ?_
    refine x_istore dX5_invite_31 (by decide) rfl ?_
    refine x_lv (lv' := [some (.ref 22), some (.ref p), some (.int (nI A)), some (.int e), some (.int (nI 0)), none]) rfl ?_
    have hS0 : Se sw5 bw (nI A) (nI (popc A)) (bI (decide (rr = 1))) jd fd en T Wi B Wo Ho := ⟨gw5, (Fw5.at (by omega) (Fw3.at (by omega) (Fw1.at (by omega) e1))), (Fw5.at (by omega) (Fw3.at (by omega) (Fw1.at (by omega) e2))), (Fw5.at (by omega) (Fw3.at (by omega) (Fw1.at (by omega) e3))), (Fw5.at (by omega) (Fw3.at (by omega) (Fw1.at (by omega) e4))), (Fw5.at (by omega) (Fw3.at (by omega) (Fw1.at (by omega) e5))), l1, l2, l3, l4, l5⟩
    have hP0 := (((hP.fr Fw1 (by omega)).fr Fw3 (by omega)).fr Fw5 (by omega))
    exact l_invite hp hA hd 7 0 Wi _ hS0 hP0 (fun i hi => absurd hi (by omega)) (((Fr.rf.tr (Fw1.mono (fun i hi => by omega))).tr (Fw3.mono (fun i hi => by omega))).tr (Fw5.mono (fun i hi => by omega))) (by omega)
  · refine x_iconst (v := nI 1) dX5_invite_22 (by decide) ?_
    refine x_goto (tgt := 27) dX5_invite_23 (by decide) ?_
    refine x_topi (y := bI (decide (rr = 1))) (bI_1 (by omega)).symm ?_
    refine x_putK f_X5_45 gw3 (Nat.le_of_ble_eq_true rfl) (fun c => ⟨bI_nar _, bI_fit _⟩) dX5_invite_27 (fun sw6 gw6 Fw6 => ?_)
    refine x_iconst (v := nI 0) dX5_invite_30 (by decide) ?_
    refine x_istore dX5_invite_31 (by decide) rfl ?_
    refine x_lv (lv' := [some (.ref 22), some (.ref p), some (.int (nI A)), some (.int e), some (.int (nI 0)), none]) rfl ?_
    have hS0 : Se sw6 bw (nI A) (nI (popc A)) (bI (decide (rr = 1))) jd fd en T Wi B Wo Ho := ⟨gw6, (Fw6.at (by omega) (Fw3.at (by omega) (Fw1.at (by omega) e1))), (Fw6.at (by omega) (Fw3.at (by omega) (Fw1.at (by omega) e2))), (Fw6.at (by omega) (Fw3.at (by omega) (Fw1.at (by omega) e3))), (Fw6.at (by omega) (Fw3.at (by omega) (Fw1.at (by omega) e4))), (Fw6.at (by omega) (Fw3.at (by omega) (Fw1.at (by omega) e5))), l1, l2, l3, l4, l5⟩
    have hP0 := (((hP.fr Fw1 (by omega)).fr Fw3 (by omega)).fr Fw6 (by omega))
    exact l_invite hp hA hd 7 0 Wi _ hS0 hP0 (fun i hi => absurd hi (by omega)) (((Fr.rf.tr (Fw1.mono (fun i hi => by omega))).tr (Fw3.mono (fun i hi => by omega))).tr (Fw6.mono (fun i hi => by omega))) (by omega)
