set_option maxHeartbeats 4000000 in
theorem l_weigh3 {Q : Option Value → ZS → Prop} {σ0 : ZS} {cl : Bool} {p : Nat} {ro di : Int32} {n : Nat} {K N : List Nat} {Wt : List Int32} {D : List Nat} {ru ri si ki : Nat} {S : List Nat} {lf jf : Nat} {bw am jd fd en : Int32} {m : Nat} {r : Bool} {t : List Nat} {wl : List (Option Nat)} {B : List Int32} (hp : p = 1 ∨ p = 11) (hm : m ≤ 7) (ht : T7 t) (hw : W7 wl) {Ho : List Int32} {s a : Nat} (hs : s < m) (hsp : s < prS r m) (ha : a < n) {d : Nat} (hd : 5 ≤ d) (hout : ∀ (Wo : List Int32) (mo : Int32) (σ : ZS) (h : Se σ bw am (nI m) (bI r) jd fd en (t.map nI) (wl.map oI) B Wo Ho) (hP : Pa σ p ro di (nI ru) n K N Wt D) (hM : MaW σ ru ri si ki S lf jf) (hF : Fr (fun i => i = 18 ∨ i = ki ∨ i = p + 4 ∨ i = 26 ∨ i = 27) σ0 σ) (hW : WK (vW cl S lf jf K N Wt D m) n (prS r m) Wo (s + 1)) (hPW : PW (vW cl S lf jf K N Wt D m) n Wo s (a + 1) 0) (hPM : PM (vW cl S lf jf K N Wt D m) n mo s (a + 1) 0), X M_X5_weigh d 0 0 Q 0 0 36 [some (.ref 22), some (.ref 16), some (.ref p), some (.int (bI cl)), some (.int (nI s)), some (.int (nI ((nxS m s)))), some (.int mo), some (.int (nI (a + 1))), none, none] [] σ) : ∀ (q b : Nat) (Wo : List Int32) (mo : Int32) (σ : ZS) (h : Se σ bw am (nI m) (bI r) jd fd en (t.map nI) (wl.map oI) B Wo Ho) (hP : Pa σ p ro di (nI ru) n K N Wt D) (hM : MaW σ ru ri si ki S lf jf) (hF : Fr (fun i => i = 18 ∨ i = ki ∨ i = p + 4 ∨ i = 26 ∨ i = 27) σ0 σ) (hW : WK (vW cl S lf jf K N Wt D m) n (prS r m) Wo (s + 1)) (hPW : PW (vW cl S lf jf K N Wt D m) n Wo s a b) (hPM : PM (vW cl S lf jf K N Wt D m) n mo s a b), b + q = n → X M_X5_weigh d 0 0 (Q) 0 0 48 [some (.ref 22), some (.ref 16), some (.ref p), some (.int (bI cl)), some (.int (nI s)), some (.int (nI ((nxS m s)))), some (.int mo), some (.int (nI a)), some (.int (nI b)), none] [] σ := by
  intro q
  induction q with
  | zero =>
    intro b Wo mo σ h hP hM hF hW hPW hPM hk
    obtain ⟨e0, e1, e2, e3, e4, e5, l1, l2, l3, l4, l5⟩ := id h
    obtain ⟨ht7, htb⟩ := id ht
    obtain ⟨hw7, hwb⟩ := id hw
    have hpr := prS_le (r := r) (m := m)
    have hloc := hM.2.2.2.2.2.1
    have m0 := hM.1
    have g0 := hP.1
    have hn7 := hP.2.2.2.2.2.1
    refine x_iload dX5_weigh_48 rfl ?_
    refine x_aload_n dX5_weigh_50 rfl ?_
    refine x_get (v := .int (nI n)) f_X5_126 g0 rfl dX5_weigh_51 ?_
    refine x_icmpN_ge (tgt := 138) dX5_weigh_54 (by decide) (by omega) (by omega) (fun hv1 => ?_) (fun hv1 => ?_)
    · refine x_iincN dX5_weigh_138 rfl (by decide) rfl ?_
      refine x_goto (tgt := 36) dX5_weigh_141 (by decide) ?_
      refine x_drop 8 ?_
      obtain rfl : b = n := by omega
      exact hout Wo mo σ h hP hM hF hW (PW_row hPW) (PM_row hPM)
    · exact absurd hv1 (by omega)
  | succ q ih =>
    intro b Wo mo σ h hP hM hF hW hPW hPM hk
    obtain ⟨e0, e1, e2, e3, e4, e5, l1, l2, l3, l4, l5⟩ := id h
    obtain ⟨ht7, htb⟩ := id ht
    obtain ⟨hw7, hwb⟩ := id hw
    have hpr := prS_le (r := r) (m := m)
    have hloc := hM.2.2.2.2.2.1
    have m0 := hM.1
    have g0 := hP.1
    have hn7 := hP.2.2.2.2.2.1
    refine x_iload dX5_weigh_48 rfl ?_
    refine x_aload_n dX5_weigh_50 rfl ?_
    refine x_get (v := .int (nI n)) f_X5_126 g0 rfl dX5_weigh_51 ?_
    refine x_icmpN_ge (tgt := 138) dX5_weigh_54 (by decide) (by omega) (by omega) (fun hv1 => ?_) (fun hv1 => ?_)
    · exact absurd hv1 (by omega)
    · refine x_iload dX5_weigh_57 rfl ?_
      refine x_iload dX5_weigh_59 rfl ?_
      refine x_icmpN_eq (tgt := 132) dX5_weigh_61 (by decide) (by omega) (by omega) (fun hv2 => ?_) (fun hv2 => ?_)
      · refine x_iincN dX5_weigh_132 rfl (by decide) rfl ?_
        refine x_lv (lv' := [some (.ref 22), some (.ref 16), some (.ref p), some (.int (bI cl)), some (.int (nI s)), some (.int (nI ((nxS m s)))), some (.int mo), some (.int (nI a)), some (.int (nI (b + 1))), none]) rfl ?_
        refine x_goto (tgt := 48) dX5_weigh_135 (by decide) ?_
        exact ih (b + 1) Wo mo σ h hP hM hF hW (PW_skip hv2 hPW) (PM_skip hv2 hPM) (by omega)
      · refine x_iload_n dX5_weigh_64 rfl ?_
        refine x_ifB_eq (tgt := 88) dX5_weigh_65 (by decide) (fun hv3 => ?_) (fun hv3 => ?_)
        · refine x_aload_n dX5_weigh_88 rfl ?_
          refine x_aload_n dX5_weigh_89 rfl ?_
          refine x_iload dX5_weigh_90 rfl ?_
          refine x_iload dX5_weigh_92 rfl ?_
          refine x_iload dX5_weigh_94 rfl ?_
          refine x_iload dX5_weigh_96 rfl ?_
          refine x_aload_n dX5_weigh_98 rfl ?_
          refine x_get (v := .int (nI m)) f_X5_37 e0 rfl dX5_weigh_99 ?_
          refine x_callV m_X1_joyOfPair l_X5_72 (c_joyOfPair hP hM hp (by omega) (by omega) (by omega) (by have := nxS_lt hs; omega) (by omega)) rfl m0 (by omega) rfl rfl (Nat.le_of_ble_eq_true rfl) ⟨Nat.le_refl _, Nat.le_refl _⟩ dX5_weigh_102 (fun r4 s4 q4 => ?_)
          have ev4 : jpI S jf K N Wt D a s b (nxS m s) m = (vW cl S lf jf K N Wt D m) s a b := by rw [vW, if_neg (by rw [hv3]; decide)]
          rw [ev4] at q4
          obtain ⟨rfl, M4, F4⟩ := q4
          refine x_stk (st' := [.int (((vW cl S lf jf K N Wt D m) s a b))]) rfl ?_
          refine x_istore dX5_weigh_105 (by decide) rfl ?_
          refine x_lv (lv' := [some (.ref 22), some (.ref 16), some (.ref p), some (.int (bI cl)), some (.int (nI s)), some (.int (nI ((nxS m s)))), some (.int mo), some (.int (nI a)), some (.int (nI b)), some (.int (((vW cl S lf jf K N Wt D m) s a b)))]) rfl ?_
          refine x_aload_n dX5_weigh_107 rfl ?_
          refine x_get (v := .ref 26) f_X5_21 (F4.at (by omega) e0) rfl dX5_weigh_108 ?_
          refine x_iload dX5_weigh_111 rfl ?_
          refine x_iload dX5_weigh_113 rfl ?_
          refine x_iload dX5_weigh_115 rfl ?_
          refine x_callS m_X5_worthPlace l_X5_109 (c_worthPlace) (by omega) rfl rfl (Nat.le_of_ble_eq_true rfl) ⟨Nat.le_refl _, Nat.le_refl _⟩ dX5_weigh_117 (fun r5 s5 q5 => ?_)
          obtain ⟨rfl, eq5⟩ := q5
          obtain rfl := eq5.symm
          refine x_stk (st' := [.int (nI (((s * 7 + a) * 7 + b))), .ref 26]) rfl ?_
          refine x_iload dX5_weigh_120 rfl ?_
          refine x_iastK (n := ((s * 7 + a) * 7 + b)) (F4.at (by omega) e4) rfl (by rw [l4]; omega) dX5_weigh_122 (fun sw6 gw6 Fw6 => ?_)
          refine x_iload dX5_weigh_123 rfl ?_
          refine x_iload dX5_weigh_125 rfl ?_
          refine x_mmax l_X5_56 (by omega) (Nat.le_of_ble_eq_true rfl) ⟨Nat.le_refl _, Nat.le_refl _⟩ dX5_weigh_127 ?_
          refine x_istore dX5_weigh_130 (by decide) rfl ?_
          refine x_lv (lv' := [some (.ref 22), some (.ref 16), some (.ref p), some (.int (bI cl)), some (.int (nI s)), some (.int (nI ((nxS m s)))), some (.int ((if (mo).toInt < (((vW cl S lf jf K N Wt D m) s a b)).toInt then ((vW cl S lf jf K N Wt D m) s a b) else mo))), some (.int (nI a)), some (.int (nI b)), some (.int (((vW cl S lf jf K N Wt D m) s a b)))]) rfl ?_
          refine x_iincN dX5_weigh_132 rfl (by decide) rfl ?_
          refine x_lv (lv' := [some (.ref 22), some (.ref 16), some (.ref p), some (.int (bI cl)), some (.int (nI s)), some (.int (nI ((nxS m s)))), some (.int ((if (mo).toInt < (((vW cl S lf jf K N Wt D m) s a b)).toInt then ((vW cl S lf jf K N Wt D m) s a b) else mo))), some (.int (nI a)), some (.int (nI (b + 1))), some (.int (((vW cl S lf jf K N Wt D m) s a b)))]) rfl ?_
          refine x_goto (tgt := 48) dX5_weigh_135 (by decide) ?_
          refine x_drop 9 ?_
          exact ih (b + 1) _ _ sw6 ⟨(Fw6.at (by omega) (F4.at (by omega) e0)), (Fw6.at (by omega) (F4.at (by omega) e1)), (Fw6.at (by omega) (F4.at (by omega) e2)), (Fw6.at (by omega) (F4.at (by omega) e3)), gw6, (Fw6.at (by omega) (F4.at (by omega) e5)), l1, l2, l3, (by first | exact l4 | (rw [List.length_set]; exact l4)), l5⟩ ((hP.fr F4 (by omega)).fr Fw6 (by omega)) (M4.fr Fw6 (by omega)) (hF.tr ((Fr.rf.tr (F4.mono (fun i hi => by omega))).tr (Fw6.mono (fun i hi => by omega)))) (WK_set hn7 l4 (by omega) ha (by omega) (by omega) hW) (PW_set hn7 l4 (by omega) ha (by omega) hPW) (PM_max ha (by omega) hv2 hPM) (by omega)
        · refine x_aload_n dX5_weigh_68 rfl ?_
          refine x_aload_n dX5_weigh_69 rfl ?_
          refine x_iload dX5_weigh_70 rfl ?_
          refine x_iload dX5_weigh_72 rfl ?_
          refine x_iload dX5_weigh_74 rfl ?_
          refine x_iload dX5_weigh_76 rfl ?_
          refine x_aload_n dX5_weigh_78 rfl ?_
          refine x_get (v := .int (nI m)) f_X5_37 e0 rfl dX5_weigh_79 ?_
          refine x_callV m_X1_clearedByPair l_X5_129 (c_clearedByPair hP hM hp (by omega) (by omega) (by omega) (by have := nxS_lt hs; omega) (by omega)) rfl m0 (by omega) rfl rfl (Nat.le_of_ble_eq_true rfl) ⟨Nat.le_refl _, Nat.le_refl _⟩ dX5_weigh_82 (fun r7 s7 q7 => ?_)
          have ev7 : clI S lf jf K N Wt D a s b (nxS m s) m = (vW cl S lf jf K N Wt D m) s a b := by rw [vW, if_pos hv3]
          rw [ev7] at q7
          obtain ⟨rfl, P7, M7, F7⟩ := q7
          refine x_stk (st' := [.int (((vW cl S lf jf K N Wt D m) s a b))]) rfl ?_
          refine x_goto (tgt := 105) dX5_weigh_85 (by decide) ?_
          refine x_istore dX5_weigh_105 (by decide) rfl ?_
          refine x_lv (lv' := [some (.ref 22), some (.ref 16), some (.ref p), some (.int (bI cl)), some (.int (nI s)), some (.int (nI ((nxS m s)))), some (.int mo), some (.int (nI a)), some (.int (nI b)), some (.int (((vW cl S lf jf K N Wt D m) s a b)))]) rfl ?_
          refine x_aload_n dX5_weigh_107 rfl ?_
          refine x_get (v := .ref 26) f_X5_21 (F7.at (by omega) e0) rfl dX5_weigh_108 ?_
          refine x_iload dX5_weigh_111 rfl ?_
          refine x_iload dX5_weigh_113 rfl ?_
          refine x_iload dX5_weigh_115 rfl ?_
          refine x_callS m_X5_worthPlace l_X5_109 (c_worthPlace) (by omega) rfl rfl (Nat.le_of_ble_eq_true rfl) ⟨Nat.le_refl _, Nat.le_refl _⟩ dX5_weigh_117 (fun r8 s8 q8 => ?_)
          obtain ⟨rfl, eq8⟩ := q8
          obtain rfl := eq8.symm
          refine x_stk (st' := [.int (nI (((s * 7 + a) * 7 + b))), .ref 26]) rfl ?_
          refine x_iload dX5_weigh_120 rfl ?_
          refine x_iastK (n := ((s * 7 + a) * 7 + b)) (F7.at (by omega) e4) rfl (by rw [l4]; omega) dX5_weigh_122 (fun sw9 gw9 Fw9 => ?_)
          refine x_iload dX5_weigh_123 rfl ?_
          refine x_iload dX5_weigh_125 rfl ?_
          refine x_mmax l_X5_56 (by omega) (Nat.le_of_ble_eq_true rfl) ⟨Nat.le_refl _, Nat.le_refl _⟩ dX5_weigh_127 ?_
          refine x_istore dX5_weigh_130 (by decide) rfl ?_
          refine x_lv (lv' := [some (.ref 22), some (.ref 16), some (.ref p), some (.int (bI cl)), some (.int (nI s)), some (.int (nI ((nxS m s)))), some (.int ((if (mo).toInt < (((vW cl S lf jf K N Wt D m) s a b)).toInt then ((vW cl S lf jf K N Wt D m) s a b) else mo))), some (.int (nI a)), some (.int (nI b)), some (.int (((vW cl S lf jf K N Wt D m) s a b)))]) rfl ?_
          refine x_iincN dX5_weigh_132 rfl (by decide) rfl ?_
          refine x_lv (lv' := [some (.ref 22), some (.ref 16), some (.ref p), some (.int (bI cl)), some (.int (nI s)), some (.int (nI ((nxS m s)))), some (.int ((if (mo).toInt < (((vW cl S lf jf K N Wt D m) s a b)).toInt then ((vW cl S lf jf K N Wt D m) s a b) else mo))), some (.int (nI a)), some (.int (nI (b + 1))), some (.int (((vW cl S lf jf K N Wt D m) s a b)))]) rfl ?_
          refine x_goto (tgt := 48) dX5_weigh_135 (by decide) ?_
          refine x_drop 9 ?_
          exact ih (b + 1) _ _ sw9 ⟨(Fw9.at (by omega) (F7.at (by omega) e0)), (Fw9.at (by omega) (F7.at (by omega) e1)), (Fw9.at (by omega) (F7.at (by omega) e2)), (Fw9.at (by omega) (F7.at (by omega) e3)), gw9, (Fw9.at (by omega) (F7.at (by omega) e5)), l1, l2, l3, (by first | exact l4 | (rw [List.length_set]; exact l4)), l5⟩ (P7.fr Fw9 (by omega)) (M7.fr Fw9 (by omega)) (hF.tr ((Fr.rf.tr (F7.mono (fun i hi => by omega))).tr (Fw9.mono (fun i hi => by omega)))) (WK_set hn7 l4 (by omega) ha (by omega) (by omega) hW) (PW_set hn7 l4 (by omega) ha (by omega) hPW) (PM_max ha (by omega) hv2 hPM) (by omega)
set_option maxHeartbeats 4000000 in
theorem l_weigh2 {Q : Option Value → ZS → Prop} {σ0 : ZS} {cl : Bool} {p : Nat} {ro di : Int32} {n : Nat} {K N : List Nat} {Wt : List Int32} {D : List Nat} {ru ri si ki : Nat} {S : List Nat} {lf jf : Nat} {bw am jd fd en : Int32} {m : Nat} {r : Bool} {t : List Nat} {wl : List (Option Nat)} {B : List Int32} (hp : p = 1 ∨ p = 11) (hm : m ≤ 7) (ht : T7 t) (hw : W7 wl) {Ho : List Int32} {s : Nat} (hs : s < m) (hsp : s < prS r m) {d : Nat} (hd : 5 ≤ d) (hout : ∀ (Wo : List Int32) (mo : Int32) (σ : ZS) (h : Se σ bw am (nI m) (bI r) jd fd en (t.map nI) (wl.map oI) B Wo Ho) (hP : Pa σ p ro di (nI ru) n K N Wt D) (hM : MaW σ ru ri si ki S lf jf) (hF : Fr (fun i => i = 18 ∨ i = ki ∨ i = p + 4 ∨ i = 26 ∨ i = 27) σ0 σ) (hW : WK (vW cl S lf jf K N Wt D m) n (prS r m) Wo (s + 1)) (hPW : PW (vW cl S lf jf K N Wt D m) n Wo s n 0) (hPM : PM (vW cl S lf jf K N Wt D m) n mo s n 0), X M_X5_weigh d 0 0 Q 0 0 144 [some (.ref 22), some (.ref 16), some (.ref p), some (.int (bI cl)), some (.int (nI s)), some (.int (nI ((nxS m s)))), some (.int mo), some (.int (nI n)), none, none] [] σ) : ∀ (q a : Nat) (Wo : List Int32) (mo : Int32) (σ : ZS) (h : Se σ bw am (nI m) (bI r) jd fd en (t.map nI) (wl.map oI) B Wo Ho) (hP : Pa σ p ro di (nI ru) n K N Wt D) (hM : MaW σ ru ri si ki S lf jf) (hF : Fr (fun i => i = 18 ∨ i = ki ∨ i = p + 4 ∨ i = 26 ∨ i = 27) σ0 σ) (hW : WK (vW cl S lf jf K N Wt D m) n (prS r m) Wo (s + 1)) (hPW : PW (vW cl S lf jf K N Wt D m) n Wo s a 0) (hPM : PM (vW cl S lf jf K N Wt D m) n mo s a 0), a + q = n → X M_X5_weigh d 0 0 (Q) 0 0 36 [some (.ref 22), some (.ref 16), some (.ref p), some (.int (bI cl)), some (.int (nI s)), some (.int (nI ((nxS m s)))), some (.int mo), some (.int (nI a)), none, none] [] σ := by
  intro q
  induction q with
  | zero =>
    intro a Wo mo σ h hP hM hF hW hPW hPM hk
    obtain ⟨e0, e1, e2, e3, e4, e5, l1, l2, l3, l4, l5⟩ := id h
    obtain ⟨ht7, htb⟩ := id ht
    obtain ⟨hw7, hwb⟩ := id hw
    have hpr := prS_le (r := r) (m := m)
    have hloc := hM.2.2.2.2.2.1
    have m0 := hM.1
    have g0 := hP.1
    have hn7 := hP.2.2.2.2.2.1
    refine x_iload dX5_weigh_36 rfl ?_
    refine x_aload_n dX5_weigh_38 rfl ?_
    refine x_get (v := .int (nI n)) f_X5_126 g0 rfl dX5_weigh_39 ?_
    refine x_icmpN_ge (tgt := 144) dX5_weigh_42 (by decide) (by omega) (by omega) (fun hv1 => ?_) (fun hv1 => ?_)
    · obtain rfl : a = n := by omega
      exact hout Wo mo σ h hP hM hF hW hPW hPM
    · exact absurd hv1 (by omega)
  | succ q ih =>
    intro a Wo mo σ h hP hM hF hW hPW hPM hk
    obtain ⟨e0, e1, e2, e3, e4, e5, l1, l2, l3, l4, l5⟩ := id h
    obtain ⟨ht7, htb⟩ := id ht
    obtain ⟨hw7, hwb⟩ := id hw
    have hpr := prS_le (r := r) (m := m)
    have hloc := hM.2.2.2.2.2.1
    have m0 := hM.1
    have g0 := hP.1
    have hn7 := hP.2.2.2.2.2.1
    refine x_iload dX5_weigh_36 rfl ?_
    refine x_aload_n dX5_weigh_38 rfl ?_
    refine x_get (v := .int (nI n)) f_X5_126 g0 rfl dX5_weigh_39 ?_
    refine x_icmpN_ge (tgt := 144) dX5_weigh_42 (by decide) (by omega) (by omega) (fun hv1 => ?_) (fun hv1 => ?_)
    · exact absurd hv1 (by omega)
    · refine x_iconst (v := nI 0) dX5_weigh_45 (by decide) ?_
      refine x_istore dX5_weigh_46 (by decide) rfl ?_
      refine x_lv (lv' := [some (.ref 22), some (.ref 16), some (.ref p), some (.int (bI cl)), some (.int (nI s)), some (.int (nI ((nxS m s)))), some (.int mo), some (.int (nI a)), some (.int (nI 0)), none]) rfl ?_
      exact l_weigh3 hp hm ht hw hs hsp (by omega) hd (fun Wo mo σ h hP hM hF hW hPW hPM => ih (a + 1) Wo mo σ h hP hM hF hW hPW hPM (by omega)) n 0 Wo mo σ h hP hM hF hW hPW hPM (by omega)
set_option maxHeartbeats 4000000 in
theorem l_weigh1 {σ0 : ZS} {cl : Bool} {p : Nat} {ro di : Int32} {n : Nat} {K N : List Nat} {Wt : List Int32} {D : List Nat} {ru ri si ki : Nat} {S : List Nat} {lf jf : Nat} {bw am jd fd en : Int32} {m : Nat} {r : Bool} {t : List Nat} {wl : List (Option Nat)} {B : List Int32} (hp : p = 1 ∨ p = 11) (hm : m ≤ 7) (ht : T7 t) (hw : W7 wl) {d : Nat} (hd : 5 ≤ d) : ∀ (k : Nat) (Wo Ho : List Int32) (σ : ZS) (h : Se σ bw am (nI m) (bI r) jd fd en (t.map nI) (wl.map oI) B Wo Ho) (hP : Pa σ p ro di (nI ru) n K N Wt D) (hM : MaW σ ru ri si ki S lf jf) (hF : Fr (fun i => i = 18 ∨ i = ki ∨ i = p + 4 ∨ i = 26 ∨ i = 27) σ0 σ) (hW : WK (vW cl S lf jf K N Wt D m) n (prS r m) Wo k) (hH : HK (vW cl S lf jf K N Wt D m) n (prS r m) Ho k), k ≤ prS r m → X M_X5_weigh d 0 0 (fun r9 σ' => r9 = none ∧ ∃ Wo' Ho' : List Int32, Se σ' bw am (nI m) (bI r) jd fd en (t.map nI) (wl.map oI) B Wo' Ho' ∧ Pa σ' p ro di (nI ru) n K N Wt D ∧ MaW σ' ru ri si ki S lf jf ∧ Fr (fun i => i = 18 ∨ i = ki ∨ i = p + 4 ∨ i = 26 ∨ i = 27) σ0 σ' ∧ WK (vW cl S lf jf K N Wt D m) n (prS r m) Wo' 0 ∧ HK (vW cl S lf jf K N Wt D m) n (prS r m) Ho' 0 ∧ Ho'.getD 0 0 = Ho'.getD 1 0) 0 0 16 [some (.ref 22), some (.ref 16), some (.ref p), some (.int (bI cl)), some (.int (nI k - nI 1)), none, none, none, none, none] [] σ := by
  intro k
  induction k with
  | zero =>
    intro Wo Ho σ h hP hM hF hW hH hk
    obtain ⟨e0, e1, e2, e3, e4, e5, l1, l2, l3, l4, l5⟩ := id h
    obtain ⟨ht7, htb⟩ := id ht
    obtain ⟨hw7, hwb⟩ := id hw
    have hpr := prS_le (r := r) (m := m)
    have hloc := hM.2.2.2.2.2.1
    have m0 := hM.1
    have g0 := hP.1
    have hn7 := hP.2.2.2.2.2.1
    refine x_lv (lv' := [some (.ref 22), some (.ref 16), some (.ref p), some (.int (bI cl)), some (.int ((-1))), none, none, none, none, none]) rfl ?_
    refine x_iload dX5_weigh_16 rfl ?_
    refine x_ifT_lt (p := (-1)) (tgt := 171) (by decide) dX5_weigh_18 (by decide) (fun hv1 => ?_) (fun hv1 => ?_)
    · refine x_aload_n dX5_weigh_171 rfl ?_
      refine x_get (v := .ref 27) f_X5_24 e0 rfl dX5_weigh_172 ?_
      refine x_iconst (v := nI 0) dX5_weigh_175 (by decide) ?_
      refine x_aload_n dX5_weigh_176 rfl ?_
      refine x_get (v := .ref 27) f_X5_24 e0 rfl dX5_weigh_177 ?_
      refine x_iconst (v := nI 1) dX5_weigh_180 (by decide) ?_
      refine x_iald (n := 1) e5 rfl (by rw [l5]; omega) dX5_weigh_181 ?_
      refine x_iastK (n := 0) e5 rfl (by rw [l5]; omega) dX5_weigh_182 (fun sw2 gw2 Fw2 => ?_)
      exact x_vret ⟨Nat.le_refl _, Nat.le_refl _⟩ rfl dX5_weigh_183 ⟨rfl, Wo, _, ⟨(Fw2.at (by omega) e0), (Fw2.at (by omega) e1), (Fw2.at (by omega) e2), (Fw2.at (by omega) e3), (Fw2.at (by omega) e4), gw2, l1, l2, l3, l4, (by rw [List.length_set]; exact l5)⟩, (hP.fr Fw2 (by omega)), (hM.fr Fw2 (by omega)), hF.tr (Fr.rf.tr (Fw2.mono (fun i hi => by omega))), hW, (HK_zero l5 hH).1, (HK_zero l5 hH).2⟩
    · exact absurd hv1 (by decide)
  | succ s ih =>
    intro Wo Ho σ h hP hM hF hW hH hk
    obtain ⟨e0, e1, e2, e3, e4, e5, l1, l2, l3, l4, l5⟩ := id h
    obtain ⟨ht7, htb⟩ := id ht
    obtain ⟨hw7, hwb⟩ := id hw
    have hpr := prS_le (r := r) (m := m)
    have hloc := hM.2.2.2.2.2.1
    have m0 := hM.1
    have g0 := hP.1
    have hn7 := hP.2.2.2.2.2.1
    have hs : s < m := by omega
    refine x_lv (lv' := [some (.ref 22), some (.ref 16), some (.ref p), some (.int (bI cl)), some (.int (nI s)), none, none, none, none, none]) (by rw [nI_suc]) ?_
    refine x_iload dX5_weigh_16 rfl ?_
    refine x_ifN_lt (tgt := 171) dX5_weigh_18 (by omega) ?_ (by decide)
    refine x_aload_n dX5_weigh_21 rfl ?_
    refine x_iload dX5_weigh_22 rfl ?_
    refine x_callV m_X5_seatBehind l_X5_61 (c_seatBehind h hm ht hw (by omega)) rfl e0 (by omega) rfl rfl (Nat.le_of_ble_eq_true rfl) ⟨Nat.le_refl _, Nat.le_refl _⟩ dX5_weigh_24 (fun r2 s2 q2 => ?_)
    obtain ⟨rfl, eq2⟩ := q2
    obtain rfl := eq2.symm
    refine x_stk (st' := [.int (nI ((nxS m s)))]) rfl ?_
    refine x_istore dX5_weigh_27 (by decide) rfl ?_
    refine x_lv (lv' := [some (.ref 22), some (.ref 16), some (.ref p), some (.int (bI cl)), some (.int (nI s)), some (.int (nI ((nxS m s)))), none, none, none, none]) rfl ?_
    refine x_ldc (v := (-2147483648)) c_X5_125 dX5_weigh_29 ?_
    refine x_istore dX5_weigh_31 (by decide) rfl ?_
    refine x_lv (lv' := [some (.ref 22), some (.ref 16), some (.ref p), some (.int (bI cl)), some (.int (nI s)), some (.int (nI ((nxS m s)))), some (.int ((-2147483648))), none, none, none]) rfl ?_
    refine x_iconst (v := nI 0) dX5_weigh_33 (by decide) ?_
    refine x_istore dX5_weigh_34 (by decide) rfl ?_
    refine x_lv (lv' := [some (.ref 22), some (.ref 16), some (.ref p), some (.int (bI cl)), some (.int (nI s)), some (.int (nI ((nxS m s)))), some (.int ((-2147483648))), some (.int (nI 0)), none, none]) rfl ?_
    refine l_weigh2 hp hm ht hw hs (by omega) hd (fun Wo mo σ h hP hM hF hW hPW hPM => ?_) n 0 Wo (-2147483648) σ h hP hM hF hW PW_0 PM_0 (by omega)
    obtain ⟨e0, e1, e2, e3, e4, e5, l1, l2, l3, l4, l5⟩ := id h
    obtain ⟨ht7, htb⟩ := id ht
    obtain ⟨hw7, hwb⟩ := id hw
    have hpr := prS_le (r := r) (m := m)
    have hloc := hM.2.2.2.2.2.1
    have m0 := hM.1
    have g0 := hP.1
    have hn7 := hP.2.2.2.2.2.1
    refine x_aload_n dX5_weigh_144 rfl ?_
    refine x_get (v := .ref 27) f_X5_24 e0 rfl dX5_weigh_145 ?_
    refine x_iload dX5_weigh_148 rfl ?_
    refine x_iconst (v := nI 1) dX5_weigh_150 (by decide) ?_
    refine x_iaddN dX5_weigh_151 ?_
    refine x_aload_n dX5_weigh_152 rfl ?_
    refine x_get (v := .ref 27) f_X5_24 e0 rfl dX5_weigh_153 ?_
    refine x_iload dX5_weigh_156 rfl ?_
    refine x_iconst (v := nI 2) dX5_weigh_158 (by decide) ?_
    refine x_iaddN dX5_weigh_159 ?_
    refine x_iald (n := s + 2) e5 rfl (by rw [l5]; omega) dX5_weigh_160 ?_
    refine x_iload dX5_weigh_161 rfl ?_
    refine x_iadd dX5_weigh_163 ?_
    refine x_iastK (n := s + 1) e5 rfl (by rw [l5]; omega) dX5_weigh_164 (fun sw501 gw501 Fw501 => ?_)
    refine x_iinc (v := (nI s + (-1))) dX5_weigh_165 rfl rfl (by decide) rfl ?_
    refine x_lv (lv' := [some (.ref 22), some (.ref 16), some (.ref p), some (.int (bI cl)), some (.int ((nI s + (-1)))), some (.int (nI ((nxS m s)))), some (.int mo), some (.int (nI n)), none, none]) rfl ?_
    refine x_goto (tgt := 16) dX5_weigh_168 (by decide) ?_
    refine x_lv (lv' := [some (.ref 22), some (.ref 16), some (.ref p), some (.int (bI cl)), some (.int (nI s - nI 1)), some (.int (nI ((nxS m s)))), some (.int mo), some (.int (nI n)), none, none]) (by rw [← nI_dec]; rfl) ?_
    refine x_drop 5 (x_drop 6 (x_drop 7 ?_))
    exact ih Wo _ sw501 ⟨(Fw501.at (by omega) e0), (Fw501.at (by omega) e1), (Fw501.at (by omega) e2), (Fw501.at (by omega) e3), (Fw501.at (by omega) e4), gw501, l1, l2, l3, l4, (by rw [List.length_set]; exact l5)⟩ (hP.fr Fw501 (by omega)) (hM.fr Fw501 (by omega)) (hF.tr (Fr.rf.tr (Fw501.mono (fun i hi => by omega)))) (WK_all hW hPW) (HK_set l5 (by omega) (by omega) hH hPM) (by omega)
set_option maxHeartbeats 4000000 in
theorem c_weigh {σ : ZS} {cl : Bool} {p : Nat} {ro di : Int32} {n : Nat} {K N : List Nat} {Wt : List Int32} {D : List Nat} {ru ri si ki : Nat} {S : List Nat} {lf jf : Nat} {bw am jd fd en : Int32} {m : Nat} {r : Bool} {t : List Nat} {wl : List (Option Nat)} {B : List Int32} (hp : p = 1 ∨ p = 11) (hm : m ≤ 7) (ht : T7 t) (hw : W7 wl) {Wo Ho : List Int32} (h : Se σ bw am (nI m) (bI r) jd fd en (t.map nI) (wl.map oI) B Wo Ho) (hP : Pa σ p ro di (nI ru) n K N Wt D) (hM : MaW σ ru ri si ki S lf jf) : Cn 5 M_X5_weigh 0 0 [.ref 22, .ref 16, .ref p, .int (bI cl)] σ (fun r9 σ' => r9 = none ∧ ∃ Wo' Ho' : List Int32, Se σ' bw am (nI m) (bI r) jd fd en (t.map nI) (wl.map oI) B Wo' Ho' ∧ Pa σ' p ro di (nI ru) n K N Wt D ∧ MaW σ' ru ri si ki S lf jf ∧ Fr (fun i => i = 18 ∨ i = ki ∨ i = p + 4 ∨ i = 26 ∨ i = 27) σ σ' ∧ WK (vW cl S lf jf K N Wt D m) n (prS r m) Wo' 0 ∧ HK (vW cl S lf jf K N Wt D m) n (prS r m) Ho' 0 ∧ Ho'.getD 0 0 = Ho'.getD 1 0) := by
  obtain ⟨e0, e1, e2, e3, e4, e5, l1, l2, l3, l4, l5⟩ := id h
  obtain ⟨ht7, htb⟩ := id ht
  obtain ⟨hw7, hwb⟩ := id hw
  have hpr := prS_le (r := r) (m := m)
  have hloc := hM.2.2.2.2.2.1
  have m0 := hM.1
  have g0 := hP.1
  have hn7 := hP.2.2.2.2.2.1
  refine Cn.intro (lv0 := [some (.ref 22), some (.ref 16), some (.ref p), some (.int (bI cl)), none, none, none, none, none, none]) rfl (Nat.le_of_ble_eq_true rfl) rfl (fun d hd => ?_)
  refine x_aload_n dX5_weigh_0 rfl ?_
  refine x_get (v := .ref 27) f_X5_24 e0 rfl dX5_weigh_1 ?_
  refine x_iconst (v := nI 0) dX5_weigh_4 (by decide) ?_
  refine x_callS m_J7_fill_53178 l_X5_119 (c_fill e5 (by omega)) (by omega) rfl rfl (Nat.le_of_ble_eq_true rfl) ⟨Nat.le_refl _, Nat.le_refl _⟩ dX5_weigh_5 (fun r1 s1 q1 => ?_)
  obtain ⟨rfl, z1, F1⟩ := q1
  refine x_stk (st' := []) rfl ?_
  refine x_aload_n dX5_weigh_8 rfl ?_
  refine x_callV m_X5_pairs l_X5_68 (c_pairs ⟨(F1.at (by omega) e0), (F1.at (by omega) e1), (F1.at (by omega) e2), (F1.at (by omega) e3), (F1.at (by omega) e4), z1, l1, l2, l3, l4, (by rw [List.length_replicate]; exact l5)⟩ hm ht hw) rfl (F1.at (by omega) e0) (by omega) rfl rfl (Nat.le_of_ble_eq_true rfl) ⟨Nat.le_refl _, Nat.le_refl _⟩ dX5_weigh_9 (fun r2 s2 q2 => ?_)
  obtain ⟨rfl, eq2⟩ := q2
  obtain rfl := eq2.symm
  refine x_stk (st' := [.int (nI ((prS r m)))]) rfl ?_
  refine x_iconst (v := nI 1) dX5_weigh_12 (by decide) ?_
  refine x_isub dX5_weigh_13 ?_
  refine x_istore dX5_weigh_14 (by decide) rfl ?_
  refine x_lv (lv' := [some (.ref 22), some (.ref 16), some (.ref p), some (.int (bI cl)), some (.int ((nI ((prS r m)) - nI 1))), none, none, none, none, none]) rfl ?_
  have hS : Se s1 bw am (nI m) (bI r) jd fd en (t.map nI) (wl.map oI) B Wo (List.replicate 9 (nI 0)) := by rw [← l5]; exact ⟨(F1.at (by omega) e0), (F1.at (by omega) e1), (F1.at (by omega) e2), (F1.at (by omega) e3), (F1.at (by omega) e4), z1, l1, l2, l3, l4, (by rw [List.length_replicate]; exact l5)⟩
  exact l_weigh1 hp hm ht hw hd (prS r m) Wo _ s1 hS (hP.fr F1 (by omega)) (hM.fr F1 (by omega)) (Fr.rf.tr (F1.mono (fun i hi => by omega))) WK_none HK_rep (Nat.le_refl _)
