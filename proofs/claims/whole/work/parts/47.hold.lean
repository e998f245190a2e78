/-- the dinner of the first pairs of a table -/
def hdD (S : List Nat) (lf jf : Nat) (K N : List Nat) (W : List Int32) (t : List Nat) (m : Nat) : Nat → List Nat → List Nat
  | 0, D => D
  | k + 1, D => mtD S lf jf K N W (t.getD k 0) k (t.getD (nxS m k) 0) (nxS m k) m (hdD S lf jf K N W t m k D)
def jyI (S : List Nat) (jf : Nat) (K N : List Nat) (W : List Int32) (D : List Nat) (t : List Nat) (m : Nat) (k : Nat) : Int32 := jpI S jf K N W D (t.getD k 0) k (t.getD (nxS m k) 0) (nxS m k) m
theorem nxS_lt {m s : Nat} (h : s < m) : nxS m s < m := by unfold nxS; split <;> omega
theorem prS_le {r : Bool} {m : Nat} : prS r m ≤ m := by unfold prS; split <;> omega
theorem sumI_succ (f : Nat → Int32) (k : Nat) : sumI f (k + 1) = sumI f k + f k := rfl
set_option maxHeartbeats 4000000 in
theorem l_joy {σ0 : ZS} {p : Nat} {ro di : Int32} {n : Nat} {K N : List Nat} {Wt : List Int32} {ru ri si ki : Nat} {S : List Nat} {lf jf : Nat} {bw am jd fd en : Int32} {m : Nat} {r : Bool} {t : List Nat} {wl : List (Option Nat)} {B Wo Ho : List Int32} (hp : p = 1 ∨ p = 11) (hm : m ≤ 7) (ht : T7 t) (hw : W7 wl) {D : List Nat} {d : Nat} (hd : 4 ≤ d) : ∀ (q k : Nat) (σ : ZS) (h : Se σ bw am (nI m) (bI r) jd fd en (t.map nI) (wl.map oI) B Wo Ho) (hP : Pa σ p ro di (nI ru) n K N Wt D) (hM : MaW σ ru ri si ki S lf jf) (hF : Fr (fun i => i = 18 ∨ i = ki) σ0 σ), k + q = prS r m → X M_X5_joy d 0 0 (fun r9 σ' => r9 = some (.int (sumI (jyI S jf K N Wt D t m) (prS r m))) ∧ MaW σ' ru ri si ki S lf jf ∧ Fr (fun i => i = 18 ∨ i = ki) σ0 σ') 0 0 5 [some (.ref 22), some (.ref 16), some (.ref p), some (.int ((sumI (jyI S jf K N Wt D t m) k))), some (.int (nI k)), none] [] σ := by
  intro q
  induction q with
  | zero =>
    intro k σ h hP hM hF hk
    obtain ⟨e0, e1, e2, e3, e4, e5, l1, l2, l3, l4, l5⟩ := id h
    obtain ⟨ht7, htb⟩ := id ht
    obtain ⟨hw7, hwb⟩ := id hw
    have hpr := prS_le (r := r) (m := m)
    have hloc := hM.2.2.2.2.2.1
    have m0 := hM.1
    have t1 := htb k
    have t2 := htb (nxS m k)
    have hnx : k < m → nxS m k < m := nxS_lt
    refine x_iload dX5_joy_5 rfl ?_
    refine x_aload_n dX5_joy_7 rfl ?_
    refine x_callV m_X5_pairs l_X5_68 (c_pairs h hm ht hw) rfl e0 (by omega) rfl rfl (Nat.le_of_ble_eq_true rfl) ⟨Nat.le_refl _, Nat.le_refl _⟩ dX5_joy_8 (fun r1 s1 q1 => ?_)
    obtain ⟨rfl, eq1⟩ := q1
    obtain rfl := eq1.symm
    refine x_stk (st' := [.int (nI ((prS r m))), .int (nI k)]) rfl ?_
    refine x_icmpN_ge (tgt := 58) dX5_joy_11 (by decide) (by omega) (by omega) (fun hv2 => ?_) (fun hv2 => ?_)
    · refine x_iload_n dX5_joy_58 rfl ?_
      exact x_iret ⟨Nat.le_refl _, Nat.le_refl _⟩ rfl dX5_joy_59 ⟨by rw [show k = prS r m by omega], hM, hF⟩
    · exact absurd hv2 (by omega)
  | succ q ih =>
    intro k σ h hP hM hF hk
    obtain ⟨e0, e1, e2, e3, e4, e5, l1, l2, l3, l4, l5⟩ := id h
    obtain ⟨ht7, htb⟩ := id ht
    obtain ⟨hw7, hwb⟩ := id hw
    have hpr := prS_le (r := r) (m := m)
    have hloc := hM.2.2.2.2.2.1
    have m0 := hM.1
    have t1 := htb k
    have t2 := htb (nxS m k)
    have hnx : k < m → nxS m k < m := nxS_lt
    refine x_iload dX5_joy_5 rfl ?_
    refine x_aload_n dX5_joy_7 rfl ?_
    refine x_callV m_X5_pairs l_X5_68 (c_pairs h hm ht hw) rfl e0 (by omega) rfl rfl (Nat.le_of_ble_eq_true rfl) ⟨Nat.le_refl _, Nat.le_refl _⟩ dX5_joy_8 (fun r1 s1 q1 => ?_)
    obtain ⟨rfl, eq1⟩ := q1
    obtain rfl := eq1.symm
    refine x_stk (st' := [.int (nI ((prS r m))), .int (nI k)]) rfl ?_
    refine x_icmpN_ge (tgt := 58) dX5_joy_11 (by decide) (by omega) (by omega) (fun hv2 => ?_) (fun hv2 => ?_)
    · exact absurd hv2 (by omega)
    · refine x_aload_n dX5_joy_14 rfl ?_
      refine x_iload dX5_joy_15 rfl ?_
      refine x_callV m_X5_seatBehind l_X5_61 (c_seatBehind h hm ht hw (by omega)) rfl e0 (by omega) rfl rfl (Nat.le_of_ble_eq_true rfl) ⟨Nat.le_refl _, Nat.le_refl _⟩ dX5_joy_17 (fun r3 s3 q3 => ?_)
      obtain ⟨rfl, eq3⟩ := q3
      obtain rfl := eq3.symm
      refine x_stk (st' := [.int (nI ((nxS m k)))]) rfl ?_
      refine x_istore dX5_joy_20 (by decide) rfl ?_
      refine x_lv (lv' := [some (.ref 22), some (.ref 16), some (.ref p), some (.int ((sumI (jyI S jf K N Wt D t m) k))), some (.int (nI k)), some (.int (nI ((nxS m k))))]) rfl ?_
      refine x_iload_n dX5_joy_22 rfl ?_
      refine x_aload_n dX5_joy_23 rfl ?_
      refine x_aload_n dX5_joy_24 rfl ?_
      refine x_aload_n dX5_joy_25 rfl ?_
      refine x_get (v := .ref 23) f_X5_9 e0 rfl dX5_joy_26 ?_
      refine x_iload dX5_joy_29 rfl ?_
      refine x_iald (n := k) e1 rfl (by rw [l1]; omega) dX5_joy_31 ?_
      refine x_topi (y := nI ((t.getD k 0))) gm_getD ?_
      refine x_iload dX5_joy_32 rfl ?_
      refine x_aload_n dX5_joy_34 rfl ?_
      refine x_get (v := .ref 23) f_X5_9 e0 rfl dX5_joy_35 ?_
      refine x_iload dX5_joy_38 rfl ?_
      refine x_iald (n := (nxS m k)) e1 rfl (by rw [l1]; omega) dX5_joy_40 ?_
      refine x_topi (y := nI ((t.getD ((nxS m k)) 0))) gm_getD ?_
      refine x_iload dX5_joy_41 rfl ?_
      refine x_aload_n dX5_joy_43 rfl ?_
      refine x_get (v := .int (nI m)) f_X5_37 e0 rfl dX5_joy_44 ?_
      refine x_callV m_X1_joyOfPair l_X5_72 (c_joyOfPair hP hM hp (by omega) (by omega) (by omega) (by omega) (by omega)) rfl m0 (by omega) rfl rfl (Nat.le_of_ble_eq_true rfl) ⟨Nat.le_refl _, Nat.le_refl _⟩ dX5_joy_47 (fun r4 s4 q4 => ?_)
      obtain ⟨rfl, M4, F4⟩ := q4
      refine x_stk (st' := [.int ((jyI S jf K N Wt D t m k)), .int ((sumI (jyI S jf K N Wt D t m) k))]) rfl ?_
      refine x_iadd dX5_joy_50 ?_
      refine x_istore_n dX5_joy_51 (by decide) rfl ?_
      refine x_lv (lv' := [some (.ref 22), some (.ref 16), some (.ref p), some (.int (((sumI (jyI S jf K N Wt D t m) k) + (jyI S jf K N Wt D t m k)))), some (.int (nI k)), some (.int (nI ((nxS m k))))]) rfl ?_
      refine x_iincN dX5_joy_52 rfl (by decide) rfl ?_
      refine x_lv (lv' := [some (.ref 22), some (.ref 16), some (.ref p), some (.int (((sumI (jyI S jf K N Wt D t m) k) + (jyI S jf K N Wt D t m k)))), some (.int (nI (k + 1))), some (.int (nI ((nxS m k))))]) rfl ?_
      refine x_goto (tgt := 5) dX5_joy_55 (by decide) ?_
      refine x_drop 5 ?_
      exact ih (k + 1) s4 (h.fr F4 (by omega)) (hP.fr F4 (by omega)) M4 (hF.tr (Fr.rf.tr (F4.mono (fun i hi => by omega)))) (by omega)
set_option maxHeartbeats 4000000 in
theorem c_joy {σ : ZS} {p : Nat} {ro di : Int32} {n : Nat} {K N : List Nat} {Wt : List Int32} {ru ri si ki : Nat} {S : List Nat} {lf jf : Nat} {bw am jd fd en : Int32} {m : Nat} {r : Bool} {t : List Nat} {wl : List (Option Nat)} {B Wo Ho : List Int32} (hp : p = 1 ∨ p = 11) (hm : m ≤ 7) (ht : T7 t) (hw : W7 wl) {D : List Nat} (h : Se σ bw am (nI m) (bI r) jd fd en (t.map nI) (wl.map oI) B Wo Ho) (hP : Pa σ p ro di (nI ru) n K N Wt D) (hM : MaW σ ru ri si ki S lf jf) : Cn 4 M_X5_joy 0 0 [.ref 22, .ref 16, .ref p] σ (fun r9 σ' => r9 = some (.int (sumI (jyI S jf K N Wt D t m) (prS r m))) ∧ MaW σ' ru ri si ki S lf jf ∧ Fr (fun i => i = 18 ∨ i = ki) σ σ') := by
  refine Cn.intro (lv0 := [some (.ref 22), some (.ref 16), some (.ref p), none, none, none]) rfl (Nat.le_of_ble_eq_true rfl) rfl (fun d hd => ?_)
  refine x_iconst (v := nI 0) dX5_joy_0 (by decide) ?_
  refine x_istore_n dX5_joy_1 (by decide) rfl ?_
  refine x_lv (lv' := [some (.ref 22), some (.ref 16), some (.ref p), some (.int (nI 0)), none, none]) rfl ?_
  refine x_iconst (v := nI 0) dX5_joy_2 (by decide) ?_
  refine x_istore dX5_joy_3 (by decide) rfl ?_
  refine x_lv (lv' := [some (.ref 22), some (.ref 16), some (.ref p), some (.int (nI 0)), some (.int (nI 0)), none]) rfl ?_
  exact l_joy hp hm ht hw hd (prS r m) 0 σ h hP hM Fr.rf (by omega)
set_option maxHeartbeats 4000000 in
theorem l_hold {σ0 : ZS} {p : Nat} {ro di : Int32} {n : Nat} {K N : List Nat} {Wt : List Int32} {ru ri si ki : Nat} {S : List Nat} {lf jf : Nat} {bw am jd fd en : Int32} {m : Nat} {r : Bool} {t : List Nat} {wl : List (Option Nat)} {B Wo Ho : List Int32} (hp : p = 1 ∨ p = 11) (hm : m ≤ 7) (ht : T7 t) (hw : W7 wl) {D : List Nat} {d : Nat} (hd : 4 ≤ d) : ∀ (q k : Nat) (σ : ZS) (h : Se σ bw am (nI m) (bI r) jd fd en (t.map nI) (wl.map oI) B Wo Ho) (hP : Pa σ p ro di (nI ru) n K N Wt (hdD S lf jf K N Wt t m k D)) (hM : MaW σ ru ri si ki S lf jf) (hF : Fr (fun i => i = 18 ∨ i = ki ∨ i = p + 4) σ0 σ), k + q = prS r m → X M_X5_hold d 0 0 (fun r9 σ' => r9 = none ∧ Pa σ' p ro di (nI ru) n K N Wt (hdD S lf jf K N Wt t m (prS r m) D) ∧ MaW σ' ru ri si ki S lf jf ∧ Fr (fun i => i = 18 ∨ i = ki ∨ i = p + 4) σ0 σ') 0 0 2 [some (.ref 22), some (.ref 16), some (.ref p), some (.int (nI k)), none] [] σ := by
  intro q
  induction q with
  | zero =>
    intro k σ h hP hM hF hk
    obtain ⟨e0, e1, e2, e3, e4, e5, l1, l2, l3, l4, l5⟩ := id h
    obtain ⟨ht7, htb⟩ := id ht
    obtain ⟨hw7, hwb⟩ := id hw
    have hpr := prS_le (r := r) (m := m)
    have hloc := hM.2.2.2.2.2.1
    have m0 := hM.1
    have t1 := htb k
    have t2 := htb (nxS m k)
    have hnx : k < m → nxS m k < m := nxS_lt
    refine x_iload_n dX5_hold_2 rfl ?_
    refine x_aload_n dX5_hold_3 rfl ?_
    refine x_callV m_X5_pairs l_X5_68 (c_pairs h hm ht hw) rfl e0 (by omega) rfl rfl (Nat.le_of_ble_eq_true rfl) ⟨Nat.le_refl _, Nat.le_refl _⟩ dX5_hold_4 (fun r1 s1 q1 => ?_)
    obtain ⟨rfl, eq1⟩ := q1
    obtain rfl := eq1.symm
    refine x_stk (st' := [.int (nI ((prS r m))), .int (nI k)]) rfl ?_
    refine x_icmpN_ge (tgt := 48) dX5_hold_7 (by decide) (by omega) (by omega) (fun hv2 => ?_) (fun hv2 => ?_)
    · exact x_vret ⟨Nat.le_refl _, Nat.le_refl _⟩ rfl dX5_hold_48 ⟨rfl, (show k = prS r m by omega) ▸ hP, hM, hF⟩
    · exact absurd hv2 (by omega)
  | succ q ih =>
    intro k σ h hP hM hF hk
    obtain ⟨e0, e1, e2, e3, e4, e5, l1, l2, l3, l4, l5⟩ := id h
    obtain ⟨ht7, htb⟩ := id ht
    obtain ⟨hw7, hwb⟩ := id hw
    have hpr := prS_le (r := r) (m := m)
    have hloc := hM.2.2.2.2.2.1
    have m0 := hM.1
    have t1 := htb k
    have t2 := htb (nxS m k)
    have hnx : k < m → nxS m k < m := nxS_lt
    refine x_iload_n dX5_hold_2 rfl ?_
    refine x_aload_n dX5_hold_3 rfl ?_
    refine x_callV m_X5_pairs l_X5_68 (c_pairs h hm ht hw) rfl e0 (by omega) rfl rfl (Nat.le_of_ble_eq_true rfl) ⟨Nat.le_refl _, Nat.le_refl _⟩ dX5_hold_4 (fun r1 s1 q1 => ?_)
    obtain ⟨rfl, eq1⟩ := q1
    obtain rfl := eq1.symm
    refine x_stk (st' := [.int (nI ((prS r m))), .int (nI k)]) rfl ?_
    refine x_icmpN_ge (tgt := 48) dX5_hold_7 (by decide) (by omega) (by omega) (fun hv2 => ?_) (fun hv2 => ?_)
    · exact absurd hv2 (by omega)
    · refine x_aload_n dX5_hold_10 rfl ?_
      refine x_iload_n dX5_hold_11 rfl ?_
      refine x_callV m_X5_seatBehind l_X5_61 (c_seatBehind h hm ht hw (by omega)) rfl e0 (by omega) rfl rfl (Nat.le_of_ble_eq_true rfl) ⟨Nat.le_refl _, Nat.le_refl _⟩ dX5_hold_12 (fun r3 s3 q3 => ?_)
      obtain ⟨rfl, eq3⟩ := q3
      obtain rfl := eq3.symm
      refine x_stk (st' := [.int (nI ((nxS m k)))]) rfl ?_
      refine x_istore dX5_hold_15 (by decide) rfl ?_
      refine x_lv (lv' := [some (.ref 22), some (.ref 16), some (.ref p), some (.int (nI k)), some (.int (nI ((nxS m k))))]) rfl ?_
      refine x_aload_n dX5_hold_17 rfl ?_
      refine x_aload_n dX5_hold_18 rfl ?_
      refine x_aload_n dX5_hold_19 rfl ?_
      refine x_get (v := .ref 23) f_X5_9 e0 rfl dX5_hold_20 ?_
      refine x_iload_n dX5_hold_23 rfl ?_
      refine x_iald (n := k) e1 rfl (by rw [l1]; omega) dX5_hold_24 ?_
      refine x_topi (y := nI ((t.getD k 0))) gm_getD ?_
      refine x_iload_n dX5_hold_25 rfl ?_
      refine x_aload_n dX5_hold_26 rfl ?_
      refine x_get (v := .ref 23) f_X5_9 e0 rfl dX5_hold_27 ?_
      refine x_iload dX5_hold_30 rfl ?_
      refine x_iald (n := (nxS m k)) e1 rfl (by rw [l1]; omega) dX5_hold_32 ?_
      refine x_topi (y := nI ((t.getD ((nxS m k)) 0))) gm_getD ?_
      refine x_iload dX5_hold_33 rfl ?_
      refine x_aload_n dX5_hold_35 rfl ?_
      refine x_get (v := .int (nI m)) f_X5_37 e0 rfl dX5_hold_36 ?_
      refine x_callV m_X1_meet l_X5_78 (c_meet hP hM hp (by omega) (by omega) (by omega) (by omega) (by omega)) rfl m0 (by omega) rfl rfl (Nat.le_of_ble_eq_true rfl) ⟨Nat.le_refl _, Nat.le_refl _⟩ dX5_hold_39 (fun r4 s4 q4 => ?_)
      obtain ⟨rfl, P4, M4, F4⟩ := q4
      refine x_stk (st' := []) rfl ?_
      refine x_iincN dX5_hold_42 rfl (by decide) rfl ?_
      refine x_lv (lv' := [some (.ref 22), some (.ref 16), some (.ref p), some (.int (nI (k + 1))), some (.int (nI ((nxS m k))))]) rfl ?_
      refine x_goto (tgt := 2) dX5_hold_45 (by decide) ?_
      refine x_drop 4 ?_
      exact ih (k + 1) s4 (h.fr F4 (by omega)) P4 M4 (hF.tr (Fr.rf.tr (F4.mono (fun i hi => by omega)))) (by omega)
set_option maxHeartbeats 4000000 in
theorem c_hold {σ : ZS} {p : Nat} {ro di : Int32} {n : Nat} {K N : List Nat} {Wt : List Int32} {ru ri si ki : Nat} {S : List Nat} {lf jf : Nat} {bw am jd fd en : Int32} {m : Nat} {r : Bool} {t : List Nat} {wl : List (Option Nat)} {B Wo Ho : List Int32} (hp : p = 1 ∨ p = 11) (hm : m ≤ 7) (ht : T7 t) (hw : W7 wl) {D : List Nat} (h : Se σ bw am (nI m) (bI r) jd fd en (t.map nI) (wl.map oI) B Wo Ho) (hP : Pa σ p ro di (nI ru) n K N Wt D) (hM : MaW σ ru ri si ki S lf jf) : Cn 4 M_X5_hold 0 0 [.ref 22, .ref 16, .ref p] σ (fun r9 σ' => r9 = none ∧ Pa σ' p ro di (nI ru) n K N Wt (hdD S lf jf K N Wt t m (prS r m) D) ∧ MaW σ' ru ri si ki S lf jf ∧ Fr (fun i => i = 18 ∨ i = ki ∨ i = p + 4) σ σ') := by
  refine Cn.intro (lv0 := [some (.ref 22), some (.ref 16), some (.ref p), none, none]) rfl (Nat.le_of_ble_eq_true rfl) rfl (fun d hd => ?_)
  refine x_iconst (v := nI 0) dX5_hold_0 (by decide) ?_
  refine x_istore_n dX5_hold_1 (by decide) rfl ?_
  refine x_lv (lv' := [some (.ref 22), some (.ref 16), some (.ref p), some (.int (nI 0)), none]) rfl ?_
  exact l_hold (D := D) hp hm ht hw hd (prS r m) 0 σ h hP hM Fr.rf (by omega)
