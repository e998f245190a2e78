section CopyK
variable {M : MD} {d mc ms kc ks pc : Nat} {Q : Option Value → ZS → Prop} {lv : List (Option Value)} {st : List Value} {σ : ZS}
theorem x_copyK {r1 r2 idx sp dp n : Nat} {x y z : Int32} {a b : List Int32} (hl : Cond.methodLink M.1.cls idx arraycopyName ∈ gtb) (ha : zg σ r1 = some (.inl (0, a))) (hb : zg σ r2 = some (.inl (0, b))) (hx : x = nI sp) (hy : y = nI dp) (hz : z = nI n) (h4 : sp + n ≤ a.length) (h5 : dp + n ≤ b.length) (hdp : 1 ≤ d) (hcat : (st.map fun v => v.category).sum ≤ 8) (hd : decode M.2.1 pc = .ok (.invokestatic idx, 3)) (k : ∀ σ' : ZS, zg σ' r2 = some (.inl (0, zcpy a b sp dp n)) → Fr (fun q => q = r2) σ σ' → X M d mc ms Q kc ks (pc + 3) lv st σ') : X M d mc ms Q kc ks pc lv (.int z :: .int y :: .ref r2 :: .int x :: .ref r1 :: st) σ :=
  x_copy hl w_ac ha hb hx hy hz h4 h5 hdp hcat hd (k _ (zs_eq hb) (Fr.rf.zs rfl))
end CopyK
theorem clS_a {r j : Bool} {m : Nat} {wl : List (Option Nat)} {Wo : List Int32} {sum : Int32} {t B : List Nat} {bw fd : Int32} (h : 0 < m ∧ (contB r m t wl (m - 1) && contB r m t wl 0) = false) : clS r j m wl Wo sum (t, B, bw, fd) = (t, B, bw, fd) := by rw [clS, if_pos h]
theorem clS_b {r j : Bool} {m : Nat} {wl : List (Option Nat)} {Wo : List Int32} {sum : Int32} {t B : List Nat} {bw fd : Int32} (h : ¬ (0 < m ∧ (contB r m t wl (m - 1) && contB r m t wl 0) = false)) (hj : j = false) : clS r j m wl Wo sum (t, B, bw, fd) = (t, B, bw, fd + nI 1) := by rw [clS, if_neg h, if_pos hj]
theorem clS_c {r j : Bool} {m : Nat} {wl : List (Option Nat)} {Wo : List Int32} {sum tot : Int32} {t B : List Nat} {bw fd : Int32} (h : ¬ (0 < m ∧ (contB r m t wl (m - 1) && contB r m t wl 0) = false)) (hj : j = true) (e : totI r m t Wo sum = tot) (hc : (fd + nI 1).toInt = 1 ∨ bw.toInt < tot.toInt) : clS r j m wl Wo sum (t, B, bw, fd) = (t, cpN t B m, tot, fd + nI 1) := by
  subst e
  rw [clS, if_neg h, if_neg (by rw [hj]; decide), if_pos hc]
theorem clS_d {r j : Bool} {m : Nat} {wl : List (Option Nat)} {Wo : List Int32} {sum tot : Int32} {t B : List Nat} {bw fd : Int32} (h : ¬ (0 < m ∧ (contB r m t wl (m - 1) && contB r m t wl 0) = false)) (hj : j = true) (e : totI r m t Wo sum = tot) (hc : ¬ ((fd + nI 1).toInt = 1 ∨ bw.toInt < tot.toInt)) : clS r j m wl Wo sum (t, B, bw, fd) = (t, B, bw, fd + nI 1) := by
  subst e
  rw [clS, if_neg h, if_neg (by rw [hj]; decide), if_neg hc]
set_option maxHeartbeats 4000000 in
theorem c_close {σ : ZS} {bw fd en : Int32} {A m : Nat} {r j : Bool} {t B : List Nat} {wl : List (Option Nat)} {Wo Ho : List Int32} (h : Se σ bw (nI A) (nI m) (bI r) (bI j) fd en (t.map nI) (wl.map oI) (B.map nI) Wo Ho) (hm : m ≤ 7) (ht : T7 t) (hw : W7 wl) (hB : T7 B) {sum : Int32} : Cn 2 M_X5_close 0 0 [.ref 22, .int sum] σ (fun r9 σ' => r9 = none ∧ SeQ σ' r j A m wl Wo Ho en (clS r j m wl Wo sum (t, B, bw, fd)) ∧ Fr (fun i => 22 ≤ i ∧ i ≤ 25) σ σ') := by
  obtain ⟨e0, e1, e2, e3, e4, e5, l1, l2, l3, l4, l5⟩ := id h
  obtain ⟨ht7, htb⟩ := id ht
  obtain ⟨hw7, hwb⟩ := id hw
  obtain ⟨hB7, hBb⟩ := id hB
  have hpr : prS r m ≤ 7 := by unfold prS; split <;> omega
  refine Cn.intro (lv0 := [some (.ref 22), some (.int sum), none]) rfl (Nat.le_of_ble_eq_true rfl) rfl (fun d hd => ?_)
  refine x_aload_n dX5_close_0 rfl ?_
  refine x_get (v := .int (nI m)) f_X5_37 e0 rfl dX5_close_1 ?_
  refine x_ifN_le (tgt := 29) dX5_close_4 (by decide) (by omega) (fun hv1 => ?_) (fun hv1 => ?_)
  · refine x_aload_n dX5_close_29 rfl ?_
    refine x_dup dX5_close_30 rfl ?_
    refine x_get (v := .int fd) f_X5_85 e0 rfl dX5_close_31 ?_
    refine x_iconst (v := nI 1) dX5_close_34 (by decide) ?_
    refine x_iadd dX5_close_35 ?_
    refine x_putK f_X5_85 e0 (Nat.le_of_ble_eq_true rfl) (fun c => ⟨rfl, rfl⟩) dX5_close_36 (fun sw2 gw2 Fw2 => ?_)
    refine x_aload_n dX5_close_39 rfl ?_
    refine x_get (v := .int (bI j)) f_X5_82 gw2 rfl dX5_close_40 ?_
    refine x_ifB_ne (tgt := 47) dX5_close_43 (by decide) (fun hv3 => ?_) (fun hv3 => ?_)
    · refine x_iload_n dX5_close_47 rfl ?_
      refine x_istore_n dX5_close_48 (by decide) rfl ?_
      refine x_lv (lv' := [some (.ref 22), some (.int sum), some (.int sum)]) rfl ?_
      refine x_aload_n dX5_close_49 rfl ?_
      refine x_callV m_X5_pairs l_X5_68 (c_pairs ⟨gw2, (Fw2.at (by omega) e1), (Fw2.at (by omega) e2), (Fw2.at (by omega) e3), (Fw2.at (by omega) e4), (Fw2.at (by omega) e5), (by first | assumption | (simp only [List.length_map, List.length_set, cpN_len] <;> assumption)), (by first | assumption | (simp only [List.length_map, List.length_set, cpN_len] <;> assumption)), (by first | assumption | (simp only [List.length_map, List.length_set, cpN_len] <;> assumption)), (by first | assumption | (simp only [List.length_map, List.length_set, cpN_len] <;> assumption)), (by first | assumption | (simp only [List.length_map, List.length_set, cpN_len] <;> assumption))⟩ hm ht hw) rfl gw2 (by omega) rfl rfl (Nat.le_of_ble_eq_true rfl) ⟨Nat.le_refl _, Nat.le_refl _⟩ dX5_close_50 (fun r4 s4 q4 => ?_)
      obtain ⟨rfl, eq4⟩ := q4
      obtain rfl := eq4.symm
      refine x_stk (st' := [.int (nI ((prS r m)))]) rfl ?_
      refine x_aload_n dX5_close_53 rfl ?_
      refine x_get (v := .int (nI m)) f_X5_37 gw2 rfl dX5_close_54 ?_
      refine x_icmpN_ne (tgt := 101) dX5_close_57 (by decide) (by omega) (by omega) (fun hv5 => ?_) (fun hv5 => ?_)
      · refine x_aload_n dX5_close_101 rfl ?_
        refine x_get (v := .int ((fd + nI 1))) f_X5_85 gw2 rfl dX5_close_102 ?_
        refine x_iconst (v := nI 1) dX5_close_105 (by decide) ?_
        refine x_icmpT_eq (p := ((fd + nI 1)).toInt) (q := ((1 : Nat) : Int)) (tgt := 117) rfl (nI_toInt (by omega)) dX5_close_106 (by decide) (fun hv6 => ?_) (fun hv6 => ?_)
        · refine x_aload_n dX5_close_117 rfl ?_
          refine x_iload_n dX5_close_118 rfl ?_
          refine x_putK f_X5_96 gw2 (Nat.le_of_ble_eq_true rfl) (fun c => ⟨rfl, rfl⟩) dX5_close_119 (fun sw7 gw7 Fw7 => ?_)
          refine x_aload_n dX5_close_122 rfl ?_
          refine x_get (v := .ref 23) f_X5_9 gw7 rfl dX5_close_123 ?_
          refine x_iconst (v := nI 0) dX5_close_126 (by decide) ?_
          refine x_aload_n dX5_close_127 rfl ?_
          refine x_get (v := .ref 25) f_X5_18 gw7 rfl dX5_close_128 ?_
          refine x_iconst (v := nI 0) dX5_close_131 (by decide) ?_
          refine x_aload_n dX5_close_132 rfl ?_
          refine x_get (v := .int (nI m)) f_X5_37 gw7 rfl dX5_close_133 ?_
          refine x_copyK l_X5_113 (Fw7.at (by omega) (Fw2.at (by omega) e1)) (Fw7.at (by omega) (Fw2.at (by omega) e3)) rfl rfl rfl (by simp only [List.length_map]; omega) (by simp only [List.length_map]; omega) (by omega) (Nat.le_of_ble_eq_true rfl) dX5_close_136 (fun sw8 gw8 Fw8 => ?_)
          rw [zcpy_N (by assumption) (by assumption) hm] at gw8
          exact x_vret ⟨Nat.le_refl _, Nat.le_refl _⟩ rfl dX5_close_139 ⟨rfl, by rw [clS_c (fun q => absurd q.1 (by omega)) hv3 (by rw [totI, if_neg (by omega)]) (Or.inl hv6)]; exact ⟨(Fw8.at (by omega) gw7), (Fw8.at (by omega) (Fw7.at (by omega) (Fw2.at (by omega) e1))), (Fw8.at (by omega) (Fw7.at (by omega) (Fw2.at (by omega) e2))), gw8, (Fw8.at (by omega) (Fw7.at (by omega) (Fw2.at (by omega) e4))), (Fw8.at (by omega) (Fw7.at (by omega) (Fw2.at (by omega) e5))), (by first | assumption | (simp only [List.length_map, List.length_set, cpN_len] <;> assumption)), (by first | assumption | (simp only [List.length_map, List.length_set, cpN_len] <;> assumption)), (by first | assumption | (simp only [List.length_map, List.length_set, cpN_len] <;> assumption)), (by first | assumption | (simp only [List.length_map, List.length_set, cpN_len] <;> assumption)), (by first | assumption | (simp only [List.length_map, List.length_set, cpN_len] <;> assumption))⟩, (((Fr.rf.tr (Fw2.mono (fun i hi => by omega))).tr (Fw7.mono (fun i hi => by omega))).tr (Fw8.mono (fun i hi => by omega)))⟩
        · refine x_iload_n dX5_close_109 rfl ?_
          refine x_aload_n dX5_close_110 rfl ?_
          refine x_get (v := .int bw) f_X5_96 gw2 rfl dX5_close_111 ?_
          refine x_icmpT_le (p := (sum).toInt) (q := (bw).toInt) (tgt := 139) rfl rfl dX5_close_114 (by decide) (fun hv9 => ?_) (fun hv9 => ?_)
          · exact x_vret ⟨Nat.le_refl _, Nat.le_refl _⟩ rfl dX5_close_139 ⟨rfl, by rw [clS_d (fun q => absurd q.1 (by omega)) hv3 (by rw [totI, if_neg (by omega)]) (by omega)]; exact ⟨gw2, (Fw2.at (by omega) e1), (Fw2.at (by omega) e2), (Fw2.at (by omega) e3), (Fw2.at (by omega) e4), (Fw2.at (by omega) e5), (by first | assumption | (simp only [List.length_map, List.length_set, cpN_len] <;> assumption)), (by first | assumption | (simp only [List.length_map, List.length_set, cpN_len] <;> assumption)), (by first | assumption | (simp only [List.length_map, List.length_set, cpN_len] <;> assumption)), (by first | assumption | (simp only [List.length_map, List.length_set, cpN_len] <;> assumption)), (by first | assumption | (simp only [List.length_map, List.length_set, cpN_len] <;> assumption))⟩, (Fr.rf.tr (Fw2.mono (fun i hi => by omega)))⟩
          · refine x_aload_n dX5_close_117 rfl ?_
            refine x_iload_n dX5_close_118 rfl ?_
            refine x_putK f_X5_96 gw2 (Nat.le_of_ble_eq_true rfl) (fun c => ⟨rfl, rfl⟩) dX5_close_119 (fun sw10 gw10 Fw10 => ?_)
            refine x_aload_n dX5_close_122 rfl ?_
            refine x_get (v := .ref 23) f_X5_9 gw10 rfl dX5_close_123 ?_
            refine x_iconst (v := nI 0) dX5_close_126 (by decide) ?_
            refine x_aload_n dX5_close_127 rfl ?_
            refine x_get (v := .ref 25) f_X5_18 gw10 rfl dX5_close_128 ?_
            refine x_iconst (v := nI 0) dX5_close_131 (by decide) ?_
            refine x_aload_n dX5_close_132 rfl ?_
            refine x_get (v := .int (nI m)) f_X5_37 gw10 rfl dX5_close_133 ?_
            refine x_copyK l_X5_113 (Fw10.at (by omega) (Fw2.at (by omega) e1)) (Fw10.at (by omega) (Fw2.at (by omega) e3)) rfl rfl rfl (by simp only [List.length_map]; omega) (by simp only [List.length_map]; omega) (by omega) (Nat.le_of_ble_eq_true rfl) dX5_close_136 (fun sw11 gw11 Fw11 => ?_)
            rw [zcpy_N (by assumption) (by assumption) hm] at gw11
            exact x_vret ⟨Nat.le_refl _, Nat.le_refl _⟩ rfl dX5_close_139 ⟨rfl, by rw [clS_c (fun q => absurd q.1 (by omega)) hv3 (by rw [totI, if_neg (by omega)]) (Or.inr hv9)]; exact ⟨(Fw11.at (by omega) gw10), (Fw11.at (by omega) (Fw10.at (by omega) (Fw2.at (by omega) e1))), (Fw11.at (by omega) (Fw10.at (by omega) (Fw2.at (by omega) e2))), gw11, (Fw11.at (by omega) (Fw10.at (by omega) (Fw2.at (by omega) e4))), (Fw11.at (by omega) (Fw10.at (by omega) (Fw2.at (by omega) e5))), (by first | assumption | (simp only [List.length_map, List.length_set, cpN_len] <;> assumption)), (by first | assumption | (simp only [List.length_map, List.length_set, cpN_len] <;> assumption)), (by first | assumption | (simp only [List.length_map, List.length_set, cpN_len] <;> assumption)), (by first | assumption | (simp only [List.length_map, List.length_set, cpN_len] <;> assumption)), (by first | assumption | (simp only [List.length_map, List.length_set, cpN_len] <;> assumption))⟩, (((Fr.rf.tr (Fw2.mono (fun i hi => by omega))).tr (Fw10.mono (fun i hi => by omega))).tr (Fw11.mono (fun i hi => by omega)))⟩
      · refine x_aload_n dX5_close_60 rfl ?_
        refine x_get (v := .int (nI m)) f_X5_37 gw2 rfl dX5_close_61 ?_
        refine x_ifN_le (tgt := 101) dX5_close_64 (by decide) (by omega) (fun hv12 => ?_) (fun hv12 => ?_)
        · refine x_aload_n dX5_close_101 rfl ?_
          refine x_get (v := .int ((fd + nI 1))) f_X5_85 gw2 rfl dX5_close_102 ?_
          refine x_iconst (v := nI 1) dX5_close_105 (by decide) ?_
          refine x_icmpT_eq (p := ((fd + nI 1)).toInt) (q := ((1 : Nat) : Int)) (tgt := 117) rfl (nI_toInt (by omega)) dX5_close_106 (by decide) (fun hv13 => ?_) (fun hv13 => ?_)
          · refine x_aload_n dX5_close_117 rfl ?_
            refine x_iload_n dX5_close_118 rfl ?_
            refine x_putK f_X5_96 gw2 (Nat.le_of_ble_eq_true rfl) (fun c => ⟨rfl, rfl⟩) dX5_close_119 (fun sw14 gw14 Fw14 => ?_)
            refine x_aload_n dX5_close_122 rfl ?_
            refine x_get (v := .ref 23) f_X5_9 gw14 rfl dX5_close_123 ?_
            refine x_iconst (v := nI 0) dX5_close_126 (by decide) ?_
            refine x_aload_n dX5_close_127 rfl ?_
            refine x_get (v := .ref 25) f_X5_18 gw14 rfl dX5_close_128 ?_
            refine x_iconst (v := nI 0) dX5_close_131 (by decide) ?_
            refine x_aload_n dX5_close_132 rfl ?_
            refine x_get (v := .int (nI m)) f_X5_37 gw14 rfl dX5_close_133 ?_
            refine x_copyK l_X5_113 (Fw14.at (by omega) (Fw2.at (by omega) e1)) (Fw14.at (by omega) (Fw2.at (by omega) e3)) rfl rfl rfl (by simp only [List.length_map]; omega) (by simp only [List.length_map]; omega) (by omega) (Nat.le_of_ble_eq_true rfl) dX5_close_136 (fun sw15 gw15 Fw15 => ?_)
            rw [zcpy_N (by assumption) (by assumption) hm] at gw15
            exact x_vret ⟨Nat.le_refl _, Nat.le_refl _⟩ rfl dX5_close_139 ⟨rfl, by rw [clS_c (fun q => absurd q.1 (by omega)) hv3 (by rw [totI, if_neg (by omega)]) (Or.inl hv13)]; exact ⟨(Fw15.at (by omega) gw14), (Fw15.at (by omega) (Fw14.at (by omega) (Fw2.at (by omega) e1))), (Fw15.at (by omega) (Fw14.at (by omega) (Fw2.at (by omega) e2))), gw15, (Fw15.at (by omega) (Fw14.at (by omega) (Fw2.at (by omega) e4))), (Fw15.at (by omega) (Fw14.at (by omega) (Fw2.at (by omega) e5))), (by first | assumption | (simp only [List.length_map, List.length_set, cpN_len] <;> assumption)), (by first | assumption | (simp only [List.length_map, List.length_set, cpN_len] <;> assumption)), (by first | assumption | (simp only [List.length_map, List.length_set, cpN_len] <;> assumption)), (by first | assumption | (simp only [List.length_map, List.length_set, cpN_len] <;> assumption)), (by first | assumption | (simp only [List.length_map, List.length_set, cpN_len] <;> assumption))⟩, (((Fr.rf.tr (Fw2.mono (fun i hi => by omega))).tr (Fw14.mono (fun i hi => by omega))).tr (Fw15.mono (fun i hi => by omega)))⟩
          · refine x_iload_n dX5_close_109 rfl ?_
            refine x_aload_n dX5_close_110 rfl ?_
            refine x_get (v := .int bw) f_X5_96 gw2 rfl dX5_close_111 ?_
            refine x_icmpT_le (p := (sum).toInt) (q := (bw).toInt) (tgt := 139) rfl rfl dX5_close_114 (by decide) (fun hv16 => ?_) (fun hv16 => ?_)
            · exact x_vret ⟨Nat.le_refl _, Nat.le_refl _⟩ rfl dX5_close_139 ⟨rfl, by rw [clS_d (fun q => absurd q.1 (by omega)) hv3 (by rw [totI, if_neg (by omega)]) (by omega)]; exact ⟨gw2, (Fw2.at (by omega) e1), (Fw2.at (by omega) e2), (Fw2.at (by omega) e3), (Fw2.at (by omega) e4), (Fw2.at (by omega) e5), (by first | assumption | (simp only [List.length_map, List.length_set, cpN_len] <;> assumption)), (by first | assumption | (simp only [List.length_map, List.length_set, cpN_len] <;> assumption)), (by first | assumption | (simp only [List.length_map, List.length_set, cpN_len] <;> assumption)), (by first | assumption | (simp only [List.length_map, List.length_set, cpN_len] <;> assumption)), (by first | assumption | (simp only [List.length_map, List.length_set, cpN_len] <;> assumption))⟩, (Fr.rf.tr (Fw2.mono (fun i hi => by omega)))⟩
            · refine x_aload_n dX5_close_117 rfl ?_
              refine x_iload_n dX5_close_118 rfl ?_
              refine x_putK f_X5_96 gw2 (Nat.le_of_ble_eq_true rfl) (fun c => ⟨rfl, rfl⟩) dX5_close_119 (fun sw17 gw17 Fw17 => ?_)
              refine x_aload_n dX5_close_122 rfl ?_
              refine x_get (v := .ref 23) f_X5_9 gw17 rfl dX5_close_123 ?_
              refine x_iconst (v := nI 0) dX5_close_126 (by decide) ?_
              refine x_aload_n dX5_close_127 rfl ?_
              refine x_get (v := .ref 25) f_X5_18 gw17 rfl dX5_close_128 ?_
              refine x_iconst (v := nI 0) dX5_close_131 (by decide) ?_
              refine x_aload_n dX5_close_132 rfl ?_
              refine x_get (v := .int (nI m)) f_X5_37 gw17 rfl dX5_close_133 ?_
              refine x_copyK l_X5_113 (Fw17.at (by omega) (Fw2.at (by omega) e1)) (Fw17.at (by omega) (Fw2.at (by omega) e3)) rfl rfl rfl (by simp only [List.length_map]; omega) (by simp only [List.length_map]; omega) (by omega) (Nat.le_of_ble_eq_true rfl) dX5_close_136 (fun sw18 gw18 Fw18 => ?_)
              rw [zcpy_N (by assumption) (by assumption) hm] at gw18
              exact x_vret ⟨Nat.le_refl _, Nat.le_refl _⟩ rfl dX5_close_139 ⟨rfl, by rw [clS_c (fun q => absurd q.1 (by omega)) hv3 (by rw [totI, if_neg (by omega)]) (Or.inr hv16)]; exact ⟨(Fw18.at (by omega) gw17), (Fw18.at (by omega) (Fw17.at (by omega) (Fw2.at (by omega) e1))), (Fw18.at (by omega) (Fw17.at (by omega) (Fw2.at (by omega) e2))), gw18, (Fw18.at (by omega) (Fw17.at (by omega) (Fw2.at (by omega) e4))), (Fw18.at (by omega) (Fw17.at (by omega) (Fw2.at (by omega) e5))), (by first | assumption | (simp only [List.length_map, List.length_set, cpN_len] <;> assumption)), (by first | assumption | (simp only [List.length_map, List.length_set, cpN_len] <;> assumption)), (by first | assumption | (simp only [List.length_map, List.length_set, cpN_len] <;> assumption)), (by first | assumption | (simp only [List.length_map, List.length_set, cpN_len] <;> assumption)), (by first | assumption | (simp only [List.length_map, List.length_set, cpN_len] <;> assumption))⟩, (((Fr.rf.tr (Fw2.mono (fun i hi => by omega))).tr (Fw17.mono (fun i hi => by omega))).tr (Fw18.mono (fun i hi => by omega)))⟩
        · have htA := htb (m - 1)
          have htB := htb 0
          refine x_iload_n dX5_close_67 rfl ?_
          refine x_aload_n dX5_close_68 rfl ?_
          refine x_get (v := .ref 26) f_X5_21 gw2 rfl dX5_close_69 ?_
          refine x_aload_n dX5_close_72 rfl ?_
          refine x_get (v := .int (nI m)) f_X5_37 gw2 rfl dX5_close_73 ?_
          refine x_iconst (v := nI 1) dX5_close_76 (by decide) ?_
          refine x_isubN (by omega) dX5_close_77 ?_
          refine x_aload_n dX5_close_78 rfl ?_
          refine x_get (v := .ref 23) f_X5_9 gw2 rfl dX5_close_79 ?_
          refine x_aload_n dX5_close_82 rfl ?_
          refine x_get (v := .int (nI m)) f_X5_37 gw2 rfl dX5_close_83 ?_
          refine x_iconst (v := nI 1) dX5_close_86 (by decide) ?_
          refine x_isubN (by omega) dX5_close_87 ?_
          refine x_iald (n := m - 1) (Fw2.at (by omega) e1) rfl (by rw [l1]; omega) dX5_close_88 ?_
          refine x_topi (y := nI ((t.getD (m - 1) 0))) gm_getD ?_
          refine x_aload_n dX5_close_89 rfl ?_
          refine x_get (v := .ref 23) f_X5_9 gw2 rfl dX5_close_90 ?_
          refine x_iconst (v := nI 0) dX5_close_93 (by decide) ?_
          refine x_iald (n := 0) (Fw2.at (by omega) e1) rfl (by rw [l1]; omega) dX5_close_94 ?_
          refine x_topi (y := nI ((t.getD 0 0))) gm_getD ?_
          refine x_callS m_X5_worthPlace l_X5_109 (c_worthPlace) (by omega) rfl rfl (Nat.le_of_ble_eq_true rfl) ⟨Nat.le_refl _, Nat.le_refl _⟩ dX5_close_95 (fun r19 s19 q19 => ?_)
          obtain ⟨rfl, eq19⟩ := q19
          obtain rfl := eq19.symm
          refine x_stk (st' := [.int (nI ((((m - 1) * 7 + ((t.getD (m - 1) 0))) * 7 + ((t.getD 0 0))))), .ref 26, .int sum]) rfl ?_
          refine x_iald (n := (((m - 1) * 7 + ((t.getD (m - 1) 0))) * 7 + ((t.getD 0 0)))) (Fw2.at (by omega) e4) rfl (by rw [l4]; omega) dX5_close_98 ?_
          refine x_iadd dX5_close_99 ?_
          refine x_istore_n dX5_close_100 (by decide) rfl ?_
          refine x_lv (lv' := [some (.ref 22), some (.int sum), some (.int ((sum + (Wo.getD ((((m - 1) * 7 + ((t.getD (m - 1) 0))) * 7 + ((t.getD 0 0)))) 0))))]) rfl ?_
          refine x_aload_n dX5_close_101 rfl ?_
          refine x_get (v := .int ((fd + nI 1))) f_X5_85 gw2 rfl dX5_close_102 ?_
          refine x_iconst (v := nI 1) dX5_close_105 (by decide) ?_
          refine x_icmpT_eq (p := ((fd + nI 1)).toInt) (q := ((1 : Nat) : Int)) (tgt := 117) rfl (nI_toInt (by omega)) dX5_close_106 (by decide) (fun hv20 => ?_) (fun hv20 => ?_)
          · refine x_aload_n dX5_close_117 rfl ?_
            refine x_iload_n dX5_close_118 rfl ?_
            refine x_putK f_X5_96 gw2 (Nat.le_of_ble_eq_true rfl) (fun c => ⟨rfl, rfl⟩) dX5_close_119 (fun sw21 gw21 Fw21 => ?_)
            refine x_aload_n dX5_close_122 rfl ?_
            refine x_get (v := .ref 23) f_X5_9 gw21 rfl dX5_close_123 ?_
            refine x_iconst (v := nI 0) dX5_close_126 (by decide) ?_
            refine x_aload_n dX5_close_127 rfl ?_
            refine x_get (v := .ref 25) f_X5_18 gw21 rfl dX5_close_128 ?_
            refine x_iconst (v := nI 0) dX5_close_131 (by decide) ?_
            refine x_aload_n dX5_close_132 rfl ?_
            refine x_get (v := .int (nI m)) f_X5_37 gw21 rfl dX5_close_133 ?_
            refine x_copyK l_X5_113 (Fw21.at (by omega) (Fw2.at (by omega) e1)) (Fw21.at (by omega) (Fw2.at (by omega) e3)) rfl rfl rfl (by simp only [List.length_map]; omega) (by simp only [List.length_map]; omega) (by omega) (Nat.le_of_ble_eq_true rfl) dX5_close_136 (fun sw22 gw22 Fw22 => ?_)
            rw [zcpy_N (by assumption) (by assumption) hm] at gw22
            exact x_vret ⟨Nat.le_refl _, Nat.le_refl _⟩ rfl dX5_close_139 ⟨rfl, by rw [clS_c (fun q => absurd q.1 (by omega)) hv3 (by rw [totI, if_pos ⟨by omega, by omega⟩]) (Or.inl hv20)]; exact ⟨(Fw22.at (by omega) gw21), (Fw22.at (by omega) (Fw21.at (by omega) (Fw2.at (by omega) e1))), (Fw22.at (by omega) (Fw21.at (by omega) (Fw2.at (by omega) e2))), gw22, (Fw22.at (by omega) (Fw21.at (by omega) (Fw2.at (by omega) e4))), (Fw22.at (by omega) (Fw21.at (by omega) (Fw2.at (by omega) e5))), (by first | assumption | (simp only [List.length_map, List.length_set, cpN_len] <;> assumption)), (by first | assumption | (simp only [List.length_map, List.length_set, cpN_len] <;> assumption)), (by first | assumption | (simp only [List.length_map, List.length_set, cpN_len] <;> assumption)), (by first | assumption | (simp only [List.length_map, List.length_set, cpN_len] <;> assumption)), (by first | assumption | (simp only [List.length_map, List.length_set, cpN_len] <;> assumption))⟩, (((Fr.rf.tr (Fw2.mono (fun i hi => by omega))).tr (Fw21.mono (fun i hi => by omega))).tr (Fw22.mono (fun i hi => by omega)))⟩
          · refine x_iload_n dX5_close_109 rfl ?_
            refine x_aload_n dX5_close_110 rfl ?_
            refine x_get (v := .int bw) f_X5_96 gw2 rfl dX5_close_111 ?_
            refine x_icmpT_le (p := ((sum + (Wo.getD ((((m - 1) * 7 + ((t.getD (m - 1) 0))) * 7 + ((t.getD 0 0)))) 0))).toInt) (q := (bw).toInt) (tgt := 139) rfl rfl dX5_close_114 (by decide) (fun hv23 => ?_) (fun hv23 => ?_)
            · exact x_vret ⟨Nat.le_refl _, Nat.le_refl _⟩ rfl dX5_close_139 ⟨rfl, by rw [clS_d (fun q => absurd q.1 (by omega)) hv3 (by rw [totI, if_pos ⟨by omega, by omega⟩]) (by omega)]; exact ⟨gw2, (Fw2.at (by omega) e1), (Fw2.at (by omega) e2), (Fw2.at (by omega) e3), (Fw2.at (by omega) e4), (Fw2.at (by omega) e5), (by first | assumption | (simp only [List.length_map, List.length_set, cpN_len] <;> assumption)), (by first | assumption | (simp only [List.length_map, List.length_set, cpN_len] <;> assumption)), (by first | assumption | (simp only [List.length_map, List.length_set, cpN_len] <;> assumption)), (by first | assumption | (simp only [List.length_map, List.length_set, cpN_len] <;> assumption)), (by first | assumption | (simp only [List.length_map, List.length_set, cpN_len] <;> assumption))⟩, (Fr.rf.tr (Fw2.mono (fun i hi => by omega)))⟩
            · refine x_aload_n dX5_close_117 rfl ?_
              refine x_iload_n dX5_close_118 rfl ?_
              refine x_putK f_X5_96 gw2 (Nat.le_of_ble_eq_true rfl) (fun c => ⟨rfl, rfl⟩) dX5_close_119 (fun sw24 gw24 Fw24 => ?_)
              refine x_aload_n dX5_close_122 rfl ?_
              refine x_get (v := .ref 23) f_X5_9 gw24 rfl dX5_close_123 ?_
              refine x_iconst (v := nI 0) dX5_close_126 (by decide) ?_
              refine x_aload_n dX5_close_127 rfl ?_
              refine x_get (v := .ref 25) f_X5_18 gw24 rfl dX5_close_128 ?_
              refine x_iconst (v := nI 0) dX5_close_131 (by decide) ?_
              refine x_aload_n dX5_close_132 rfl ?_
              refine x_get (v := .int (nI m)) f_X5_37 gw24 rfl dX5_close_133 ?_
              refine x_copyK l_X5_113 (Fw24.at (by omega) (Fw2.at (by omega) e1)) (Fw24.at (by omega) (Fw2.at (by omega) e3)) rfl rfl rfl (by simp only [List.length_map]; omega) (by simp only [List.length_map]; omega) (by omega) (Nat.le_of_ble_eq_true rfl) dX5_close_136 (fun sw25 gw25 Fw25 => ?_)
              rw [zcpy_N (by assumption) (by assumption) hm] at gw25
              exact x_vret ⟨Nat.le_refl _, Nat.le_refl _⟩ rfl dX5_close_139 ⟨rfl, by rw [clS_c (fun q => absurd q.1 (by omega)) hv3 (by rw [totI, if_pos ⟨by omega, by omega⟩]) (Or.inr hv23)]; exact ⟨(Fw25.at (by omega) gw24), (Fw25.at (by omega) (Fw24.at (by omega) (Fw2.at (by omega) e1))), (Fw25.at (by omega) (Fw24.at (by omega) (Fw2.at (by omega) e2))), gw25, (Fw25.at (by omega) (Fw24.at (by omega) (Fw2.at (by omega) e4))), (Fw25.at (by omega) (Fw24.at (by omega) (Fw2.at (by omega) e5))), (by first | assumption | (simp only [List.length_map, List.length_set, cpN_len] <;> assumption)), (by first | assumption | (simp only [List.length_map, List.length_set, cpN_len] <;> assumption)), (by first | assumption | (simp only [List.length_map, List.length_set, cpN_len] <;> assumption)), (by first | assumption | (simp only [List.length_map, List.length_set, cpN_len] <;> assumption)), (by first | assumption | (simp only [List.length_map, List.length_set, cpN_len] <;> assumption))⟩, (((Fr.rf.tr (Fw2.mono (fun i hi => by omega))).tr (Fw24.mono (fun i hi => by omega))).tr (Fw25.mono (fun i hi => by omega)))⟩
    · exact x_vret ⟨Nat.le_refl _, Nat.le_refl _⟩ rfl dX5_close_46 ⟨rfl, by rw [clS_b (fun q => absurd q.1 (by omega)) hv3]; exact ⟨gw2, (Fw2.at (by omega) e1), (Fw2.at (by omega) e2), (Fw2.at (by omega) e3), (Fw2.at (by omega) e4), (Fw2.at (by omega) e5), (by first | assumption | (simp only [List.length_map, List.length_set, cpN_len] <;> assumption)), (by first | assumption | (simp only [List.length_map, List.length_set, cpN_len] <;> assumption)), (by first | assumption | (simp only [List.length_map, List.length_set, cpN_len] <;> assumption)), (by first | assumption | (simp only [List.length_map, List.length_set, cpN_len] <;> assumption)), (by first | assumption | (simp only [List.length_map, List.length_set, cpN_len] <;> assumption))⟩, (Fr.rf.tr (Fw2.mono (fun i hi => by omega)))⟩
  · refine x_aload_n dX5_close_7 rfl ?_
    refine x_aload_n dX5_close_8 rfl ?_
    refine x_get (v := .int (nI m)) f_X5_37 e0 rfl dX5_close_9 ?_
    refine x_iconst (v := nI 1) dX5_close_12 (by decide) ?_
    refine x_isubN (by omega) dX5_close_13 ?_
    refine x_callV m_X5_isContent l_X5_64 (c_isContent h hm ht hw (by omega)) rfl e0 (by omega) rfl rfl (Nat.le_of_ble_eq_true rfl) ⟨Nat.le_refl _, Nat.le_refl _⟩ dX5_close_14 (fun r26 s26 q26 => ?_)
    obtain ⟨rfl, eq26⟩ := q26
    obtain rfl := eq26.symm
    refine x_stk (st' := [.int (bI ((contB r m t wl (m - 1))))]) rfl ?_
    refine x_ifB_eq (tgt := 28) dX5_close_17 (by decide) (fun hv27 => ?_) (fun hv27 => ?_)
    · exact x_vret ⟨Nat.le_refl _, Nat.le_refl _⟩ rfl dX5_close_28 ⟨rfl, by rw [clS_a ⟨by omega, by rw [hv27]; rfl⟩]; exact h, Fr.rf⟩
    · refine x_aload_n dX5_close_20 rfl ?_
      refine x_iconst (v := nI 0) dX5_close_21 (by decide) ?_
      refine x_callV m_X5_isContent l_X5_64 (c_isContent h hm ht hw (by omega)) rfl e0 (by omega) rfl rfl (Nat.le_of_ble_eq_true rfl) ⟨Nat.le_refl _, Nat.le_refl _⟩ dX5_close_22 (fun r28 s28 q28 => ?_)
      obtain ⟨rfl, eq28⟩ := q28
      obtain rfl := eq28.symm
      refine x_stk (st' := [.int (bI ((contB r m t wl 0)))]) rfl ?_
      refine x_ifB_ne (tgt := 29) dX5_close_25 (by decide) (fun hv29 => ?_) (fun hv29 => ?_)
      · refine x_aload_n dX5_close_29 rfl ?_
        refine x_dup dX5_close_30 rfl ?_
        refine x_get (v := .int fd) f_X5_85 e0 rfl dX5_close_31 ?_
        refine x_iconst (v := nI 1) dX5_close_34 (by decide) ?_
        refine x_iadd dX5_close_35 ?_
        refine x_putK f_X5_85 e0 (Nat.le_of_ble_eq_true rfl) (fun c => ⟨rfl, rfl⟩) dX5_close_36 (fun sw30 gw30 Fw30 => ?_)
        refine x_aload_n dX5_close_39 rfl ?_
        refine x_get (v := .int (bI j)) f_X5_82 gw30 rfl dX5_close_40 ?_
        refine x_ifB_ne (tgt := 47) dX5_close_43 (by decide) (fun hv31 => ?_) (fun hv31 => ?_)
        · refine x_iload_n dX5_close_47 rfl ?_
          refine x_istore_n dX5_close_48 (by decide) rfl ?_
          refine x_lv (lv' := [some (.ref 22), some (.int sum), some (.int sum)]) rfl ?_
          refine x_aload_n dX5_close_49 rfl ?_
          refine x_callV m_X5_pairs l_X5_68 (c_pairs ⟨gw30, (Fw30.at (by omega) e1), (Fw30.at (by omega) e2), (Fw30.at (by omega) e3), (Fw30.at (by omega) e4), (Fw30.at (by omega) e5), (by first | assumption | (simp only [List.length_map, List.length_set, cpN_len] <;> assumption)), (by first | assumption | (simp only [List.length_map, List.length_set, cpN_len] <;> assumption)), (by first | assumption | (simp only [List.length_map, List.length_set, cpN_len] <;> assumption)), (by first | assumption | (simp only [List.length_map, List.length_set, cpN_len] <;> assumption)), (by first | assumption | (simp only [List.length_map, List.length_set, cpN_len] <;> assumption))⟩ hm ht hw) rfl gw30 (by omega) rfl rfl (Nat.le_of_ble_eq_true rfl) ⟨Nat.le_refl _, Nat.le_refl _⟩ dX5_close_50 (fun r32 s32 q32 => ?_)
          obtain ⟨rfl, eq32⟩ := q32
          obtain rfl := eq32.symm
          refine x_stk (st' := [.int (nI ((prS r m)))]) rfl ?_
          refine x_aload_n dX5_close_53 rfl ?_
          refine x_get (v := .int (nI m)) f_X5_37 gw30 rfl dX5_close_54 ?_
          refine x_icmpN_ne (tgt := 101) dX5_close_57 (by decide) (by omega) (by omega) (fun hv33 => ?_) (fun hv33 => ?_)
          · refine x_aload_n dX5_close_101 rfl ?_
            refine x_get (v := .int ((fd + nI 1))) f_X5_85 gw30 rfl dX5_close_102 ?_
            refine x_iconst (v := nI 1) dX5_close_105 (by decide) ?_
            refine x_icmpT_eq (p := ((fd + nI 1)).toInt) (q := ((1 : Nat) : Int)) (tgt := 117) rfl (nI_toInt (by omega)) dX5_close_106 (by decide) (fun hv34 => ?_) (fun hv34 => ?_)
            · refine x_aload_n dX5_close_117 rfl ?_
              refine x_iload_n dX5_close_118 rfl ?_
              refine x_putK f_X5_96 gw30 (Nat.le_of_ble_eq_true rfl) (fun c => ⟨rfl, rfl⟩) dX5_close_119 (fun sw35 gw35 Fw35 => ?_)
              refine x_aload_n dX5_close_122 rfl ?_
              refine x_get (v := .ref 23) f_X5_9 gw35 rfl dX5_close_123 ?_
              refine x_iconst (v := nI 0) dX5_close_126 (by decide) ?_
              refine x_aload_n dX5_close_127 rfl ?_
              refine x_get (v := .ref 25) f_X5_18 gw35 rfl dX5_close_128 ?_
              refine x_iconst (v := nI 0) dX5_close_131 (by decide) ?_
              refine x_aload_n dX5_close_132 rfl ?_
              refine x_get (v := .int (nI m)) f_X5_37 gw35 rfl dX5_close_133 ?_
              refine x_copyK l_X5_113 (Fw35.at (by omega) (Fw30.at (by omega) e1)) (Fw35.at (by omega) (Fw30.at (by omega) e3)) rfl rfl rfl (by simp only [List.length_map]; omega) (by simp only [List.length_map]; omega) (by omega) (Nat.le_of_ble_eq_true rfl) dX5_close_136 (fun sw36 gw36 Fw36 => ?_)
              rw [zcpy_N (by assumption) (by assumption) hm] at gw36
              exact x_vret ⟨Nat.le_refl _, Nat.le_refl _⟩ rfl dX5_close_139 ⟨rfl, by rw [clS_c (fun q => absurd q.2 (by rw [hv27, hv29]; decide)) hv31 (by rw [totI, if_neg (by omega)]) (Or.inl hv34)]; exact ⟨(Fw36.at (by omega) gw35), (Fw36.at (by omega) (Fw35.at (by omega) (Fw30.at (by omega) e1))), (Fw36.at (by omega) (Fw35.at (by omega) (Fw30.at (by omega) e2))), gw36, (Fw36.at (by omega) (Fw35.at (by omega) (Fw30.at (by omega) e4))), (Fw36.at (by omega) (Fw35.at (by omega) (Fw30.at (by omega) e5))), (by first | assumption | (simp only [List.length_map, List.length_set, cpN_len] <;> assumption)), (by first | assumption | (simp only [List.length_map, List.length_set, cpN_len] <;> assumption)), (by first | assumption | (simp only [List.length_map, List.length_set, cpN_len] <;> assumption)), (by first | assumption | (simp only [List.length_map, List.length_set, cpN_len] <;> assumption)), (by first | assumption | (simp only [List.length_map, List.length_set, cpN_len] <;> assumption))⟩, (((Fr.rf.tr (Fw30.mono (fun i hi => by omega))).tr (Fw35.mono (fun i hi => by omega))).tr (Fw36.mono (fun i hi => by omega)))⟩
            · refine x_iload_n dX5_close_109 rfl ?_
              refine x_aload_n dX5_close_110 rfl ?_
              refine x_get (v := .int bw) f_X5_96 gw30 rfl dX5_close_111 ?_
              refine x_icmpT_le (p := (sum).toInt) (q := (bw).toInt) (tgt := 139) rfl rfl dX5_close_114 (by decide) (fun hv37 => ?_) (fun hv37 => ?_)
              · exact x_vret ⟨Nat.le_refl _, Nat.le_refl _⟩ rfl dX5_close_139 ⟨rfl, by rw [clS_d (fun q => absurd q.2 (by rw [hv27, hv29]; decide)) hv31 (by rw [totI, if_neg (by omega)]) (by omega)]; exact ⟨gw30, (Fw30.at (by omega) e1), (Fw30.at (by omega) e2), (Fw30.at (by omega) e3), (Fw30.at (by omega) e4), (Fw30.at (by omega) e5), (by first | assumption | (simp only [List.length_map, List.length_set, cpN_len] <;> assumption)), (by first | assumption | (simp only [List.length_map, List.length_set, cpN_len] <;> assumption)), (by first | assumption | (simp only [List.length_map, List.length_set, cpN_len] <;> assumption)), (by first | assumption | (simp only [List.length_map, List.length_set, cpN_len] <;> assumption)), (by first | assumption | (simp only [List.length_map, List.length_set, cpN_len] <;> assumption))⟩, (Fr.rf.tr (Fw30.mono (fun i hi => by omega)))⟩
              · refine x_aload_n dX5_close_117 rfl ?_
                refine x_iload_n dX5_close_118 rfl ?_
                refine x_putK f_X5_96 gw30 (Nat.le_of_ble_eq_true rfl) (fun c => ⟨rfl, rfl⟩) dX5_close_119 (fun sw38 gw38 Fw38 => ?_)
                refine x_aload_n dX5_close_122 rfl ?_
                refine x_get (v := .ref 23) f_X5_9 gw38 rfl dX5_close_123 ?_
                refine x_iconst (v := nI 0) dX5_close_126 (by decide) ?_
                refine x_aload_n dX5_close_127 rfl ?_
                refine x_get (v := .ref 25) f_X5_18 gw38 rfl dX5_close_128 ?_
                refine x_iconst (v := nI 0) dX5_close_131 (by decide) ?_
                refine x_aload_n dX5_close_132 rfl ?_
                refine x_get (v := .int (nI m)) f_X5_37 gw38 rfl dX5_close_133 ?_
                refine x_copyK l_X5_113 (Fw38.at (by omega) (Fw30.at (by omega) e1)) (Fw38.at (by omega) (Fw30.at (by omega) e3)) rfl rfl rfl (by simp only [List.length_map]; omega) (by simp only [List.length_map]; omega) (by omega) (Nat.le_of_ble_eq_true rfl) dX5_close_136 (fun sw39 gw39 Fw39 => ?_)
                rw [zcpy_N (by assumption) (by assumption) hm] at gw39
                exact x_vret ⟨Nat.le_refl _, Nat.le_refl _⟩ rfl dX5_close_139 ⟨rfl, by rw [clS_c (fun q => absurd q.2 (by rw [hv27, hv29]; decide)) hv31 (by rw [totI, if_neg (by omega)]) (Or.inr hv37)]; exact ⟨(Fw39.at (by omega) gw38), (Fw39.at (by omega) (Fw38.at (by omega) (Fw30.at (by omega) e1))), (Fw39.at (by omega) (Fw38.at (by omega) (Fw30.at (by omega) e2))), gw39, (Fw39.at (by omega) (Fw38.at (by omega) (Fw30.at (by omega) e4))), (Fw39.at (by omega) (Fw38.at (by omega) (Fw30.at (by omega) e5))), (by first | assumption | (simp only [List.length_map, List.length_set, cpN_len] <;> assumption)), (by first | assumption | (simp only [List.length_map, List.length_set, cpN_len] <;> assumption)), (by first | assumption | (simp only [List.length_map, List.length_set, cpN_len] <;> assumption)), (by first | assumption | (simp only [List.length_map, List.length_set, cpN_len] <;> assumption)), (by first | assumption | (simp only [List.length_map, List.length_set, cpN_len] <;> assumption))⟩, (((Fr.rf.tr (Fw30.mono (fun i hi => by omega))).tr (Fw38.mono (fun i hi => by omega))).tr (Fw39.mono (fun i hi => by omega)))⟩
          · refine x_aload_n dX5_close_60 rfl ?_
            refine x_get (v := .int (nI m)) f_X5_37 gw30 rfl dX5_close_61 ?_
            refine x_ifN_le (tgt := 101) dX5_close_64 (by decide) (by omega) (fun hv40 => ?_) (fun hv40 => ?_)
            · refine x_aload_n dX5_close_101 rfl ?_
              refine x_get (v := .int ((fd + nI 1))) f_X5_85 gw30 rfl dX5_close_102 ?_
              refine x_iconst (v := nI 1) dX5_close_105 (by decide) ?_
              refine x_icmpT_eq (p := ((fd + nI 1)).toInt) (q := ((1 : Nat) : Int)) (tgt := 117) rfl (nI_toInt (by omega)) dX5_close_106 (by decide) (fun hv41 => ?_) (fun hv41 => ?_)
              · refine x_aload_n dX5_close_117 rfl ?_
                refine x_iload_n dX5_close_118 rfl ?_
                refine x_putK f_X5_96 gw30 (Nat.le_of_ble_eq_true rfl) (fun c => ⟨rfl, rfl⟩) dX5_close_119 (fun sw42 gw42 Fw42 => ?_)
                refine x_aload_n dX5_close_122 rfl ?_
                refine x_get (v := .ref 23) f_X5_9 gw42 rfl dX5_close_123 ?_
                refine x_iconst (v := nI 0) dX5_close_126 (by decide) ?_
                refine x_aload_n dX5_close_127 rfl ?_
                refine x_get (v := .ref 25) f_X5_18 gw42 rfl dX5_close_128 ?_
                refine x_iconst (v := nI 0) dX5_close_131 (by decide) ?_
                refine x_aload_n dX5_close_132 rfl ?_
                refine x_get (v := .int (nI m)) f_X5_37 gw42 rfl dX5_close_133 ?_
                refine x_copyK l_X5_113 (Fw42.at (by omega) (Fw30.at (by omega) e1)) (Fw42.at (by omega) (Fw30.at (by omega) e3)) rfl rfl rfl (by simp only [List.length_map]; omega) (by simp only [List.length_map]; omega) (by omega) (Nat.le_of_ble_eq_true rfl) dX5_close_136 (fun sw43 gw43 Fw43 => ?_)
                rw [zcpy_N (by assumption) (by assumption) hm] at gw43
                exact x_vret ⟨Nat.le_refl _, Nat.le_refl _⟩ rfl dX5_close_139 ⟨rfl, by rw [clS_c (fun q => absurd q.2 (by rw [hv27, hv29]; decide)) hv31 (by rw [totI, if_neg (by omega)]) (Or.inl hv41)]; exact ⟨(Fw43.at (by omega) gw42), (Fw43.at (by omega) (Fw42.at (by omega) (Fw30.at (by omega) e1))), (Fw43.at (by omega) (Fw42.at (by omega) (Fw30.at (by omega) e2))), gw43, (Fw43.at (by omega) (Fw42.at (by omega) (Fw30.at (by omega) e4))), (Fw43.at (by omega) (Fw42.at (by omega) (Fw30.at (by omega) e5))), (by first | assumption | (simp only [List.length_map, List.length_set, cpN_len] <;> assumption)), (by first | assumption | (simp only [List.length_map, List.length_set, cpN_len] <;> assumption)), (by first | assumption | (simp only [List.length_map, List.length_set, cpN_len] <;> assumption)), (by first | assumption | (simp only [List.length_map, List.length_set, cpN_len] <;> assumption)), (by first | assumption | (simp only [List.length_map, List.length_set, cpN_len] <;> assumption))⟩, (((Fr.rf.tr (Fw30.mono (fun i hi => by omega))).tr (Fw42.mono (fun i hi => by omega))).tr (Fw43.mono (fun i hi => by omega)))⟩
              · refine x_iload_n dX5_close_109 rfl ?_
                refine x_aload_n dX5_close_110 rfl ?_
                refine x_get (v := .int bw) f_X5_96 gw30 rfl dX5_close_111 ?_
                refine x_icmpT_le (p := (sum).toInt) (q := (bw).toInt) (tgt := 139) rfl rfl dX5_close_114 (by decide) (fun hv44 => ?_) (fun hv44 => ?_)
                · exact x_vret ⟨Nat.le_refl _, Nat.le_refl _⟩ rfl dX5_close_139 ⟨rfl, by rw [clS_d (fun q => absurd q.2 (by rw [hv27, hv29]; decide)) hv31 (by rw [totI, if_neg (by omega)]) (by omega)]; exact ⟨gw30, (Fw30.at (by omega) e1), (Fw30.at (by omega) e2), (Fw30.at (by omega) e3), (Fw30.at (by omega) e4), (Fw30.at (by omega) e5), (by first | assumption | (simp only [List.length_map, List.length_set, cpN_len] <;> assumption)), (by first | assumption | (simp only [List.length_map, List.length_set, cpN_len] <;> assumption)), (by first | assumption | (simp only [List.length_map, List.length_set, cpN_len] <;> assumption)), (by first | assumption | (simp only [List.length_map, List.length_set, cpN_len] <;> assumption)), (by first | assumption | (simp only [List.length_map, List.length_set, cpN_len] <;> assumption))⟩, (Fr.rf.tr (Fw30.mono (fun i hi => by omega)))⟩
                · refine x_aload_n dX5_close_117 rfl ?_
                  refine x_iload_n dX5_close_118 rfl ?_
                  refine x_putK f_X5_96 gw30 (Nat.le_of_ble_eq_true rfl) (fun c => ⟨rfl, rfl⟩) dX5_close_119 (fun sw45 gw45 Fw45 => ?_)
                  refine x_aload_n dX5_close_122 rfl ?_
                  refine x_get (v := .ref 23) f_X5_9 gw45 rfl dX5_close_123 ?_
                  refine x_iconst (v := nI 0) dX5_close_126 (by decide) ?_
                  refine x_aload_n dX5_close_127 rfl ?_
                  refine x_get (v := .ref 25) f_X5_18 gw45 rfl dX5_close_128 ?_
                  refine x_iconst (v := nI 0) dX5_close_131 (by decide) ?_
                  refine x_aload_n dX5_close_132 rfl ?_
                  refine x_get (v := .int (nI m)) f_X5_37 gw45 rfl dX5_close_133 ?_
                  refine x_copyK l_X5_113 (Fw45.at (by omega) (Fw30.at (by omega) e1)) (Fw45.at (by omega) (Fw30.at (by omega) e3)) rfl rfl rfl (by simp only [List.length_map]; omega) (by simp only [List.length_map]; omega) (by omega) (Nat.le_of_ble_eq_true rfl) dX5_close_136 (fun sw46 gw46 Fw46 => ?_)
                  rw [zcpy_N (by assumption) (by assumption) hm] at gw46
                  exact x_vret ⟨Nat.le_refl _, Nat.le_refl _⟩ rfl dX5_close_139 ⟨rfl, by rw [clS_c (fun q => absurd q.2 (by rw [hv27, hv29]; decide)) hv31 (by rw [totI, if_neg (by omega)]) (Or.inr hv44)]; exact ⟨(Fw46.at (by omega) gw45), (Fw46.at (by omega) (Fw45.at (by omega) (Fw30.at (by omega) e1))), (Fw46.at (by omega) (Fw45.at (by omega) (Fw30.at (by omega) e2))), gw46, (Fw46.at (by omega) (Fw45.at (by omega) (Fw30.at (by omega) e4))), (Fw46.at (by omega) (Fw45.at (by omega) (Fw30.at (by omega) e5))), (by first | assumption | (simp only [List.length_map, List.length_set, cpN_len] <;> assumption)), (by first | assumption | (simp only [List.length_map, List.length_set, cpN_len] <;> assumption)), (by first | assumption | (simp only [List.length_map, List.length_set, cpN_len] <;> assumption)), (by first | assumption | (simp only [List.length_map, List.length_set, cpN_len] <;> assumption)), (by first | assumption | (simp only [List.length_map, List.length_set, cpN_len] <;> assumption))⟩, (((Fr.rf.tr (Fw30.mono (fun i hi => by omega))).tr (Fw45.mono (fun i hi => by omega))).tr (Fw46.mono (fun i hi => by omega)))⟩
            · have htA := htb (m - 1)
              have htB := htb 0
              refine x_iload_n dX5_close_67 rfl ?_
              refine x_aload_n dX5_close_68 rfl ?_
              refine x_get (v := .ref 26) f_X5_21 gw30 rfl dX5_close_69 ?_
              refine x_aload_n dX5_close_72 rfl ?_
              refine x_get (v := .int (nI m)) f_X5_37 gw30 rfl dX5_close_73 ?_
              refine x_iconst (v := nI 1) dX5_close_76 (by decide) ?_
              refine x_isubN (by omega) dX5_close_77 ?_
              refine x_aload_n dX5_close_78 rfl ?_
              refine x_get (v := .ref 23) f_X5_9 gw30 rfl dX5_close_79 ?_
              refine x_aload_n dX5_close_82 rfl ?_
              refine x_get (v := .int (nI m)) f_X5_37 gw30 rfl dX5_close_83 ?_
              refine x_iconst (v := nI 1) dX5_close_86 (by decide) ?_
              refine x_isubN (by omega) dX5_close_87 ?_
              refine x_iald (n := m - 1) (Fw30.at (by omega) e1) rfl (by rw [l1]; omega) dX5_close_88 ?_
              refine x_topi (y := nI ((t.getD (m - 1) 0))) gm_getD ?_
              refine x_aload_n dX5_close_89 rfl ?_
              refine x_get (v := .ref 23) f_X5_9 gw30 rfl dX5_close_90 ?_
              refine x_iconst (v := nI 0) dX5_close_93 (by decide) ?_
              refine x_iald (n := 0) (Fw30.at (by omega) e1) rfl (by rw [l1]; omega) dX5_close_94 ?_
              refine x_topi (y := nI ((t.getD 0 0))) gm_getD ?_
              refine x_callS m_X5_worthPlace l_X5_109 (c_worthPlace) (by omega) rfl rfl (Nat.le_of_ble_eq_true rfl) ⟨Nat.le_refl _, Nat.le_refl _⟩ dX5_close_95 (fun r47 s47 q47 => ?_)
              obtain ⟨rfl, eq47⟩ := q47
              obtain rfl := eq47.symm
              refine x_stk (st' := [.int (nI ((((m - 1) * 7 + ((t.getD (m - 1) 0))) * 7 + ((t.getD 0 0))))), .ref 26, .int sum]) rfl ?_
              refine x_iald (n := (((m - 1) * 7 + ((t.getD (m - 1) 0))) * 7 + ((t.getD 0 0)))) (Fw30.at (by omega) e4) rfl (by rw [l4]; omega) dX5_close_98 ?_
              refine x_iadd dX5_close_99 ?_
              refine x_istore_n dX5_close_100 (by decide) rfl ?_
              refine x_lv (lv' := [some (.ref 22), some (.int sum), some (.int ((sum + (Wo.getD ((((m - 1) * 7 + ((t.getD (m - 1) 0))) * 7 + ((t.getD 0 0)))) 0))))]) rfl ?_
              refine x_aload_n dX5_close_101 rfl ?_
              refine x_get (v := .int ((fd + nI 1))) f_X5_85 gw30 rfl dX5_close_102 ?_
              refine x_iconst (v := nI 1) dX5_close_105 (by decide) ?_
              refine x_icmpT_eq (p := ((fd + nI 1)).toInt) (q := ((1 : Nat) : Int)) (tgt := 117) rfl (nI_toInt (by omega)) dX5_close_106 (by decide) (fun hv48 => ?_) (fun hv48 => ?_)
              · refine x_aload_n dX5_close_117 rfl ?_
                refine x_iload_n dX5_close_118 rfl ?_
                refine x_putK f_X5_96 gw30 (Nat.le_of_ble_eq_true rfl) (fun c => ⟨rfl, rfl⟩) dX5_close_119 (fun sw49 gw49 Fw49 => ?_)
                refine x_aload_n dX5_close_122 rfl ?_
                refine x_get (v := .ref 23) f_X5_9 gw49 rfl dX5_close_123 ?_
                refine x_iconst (v := nI 0) dX5_close_126 (by decide) ?_
                refine x_aload_n dX5_close_127 rfl ?_
                refine x_get (v := .ref 25) f_X5_18 gw49 rfl dX5_close_128 ?_
                refine x_iconst (v := nI 0) dX5_close_131 (by decide) ?_
                refine x_aload_n dX5_close_132 rfl ?_
                refine x_get (v := .int (nI m)) f_X5_37 gw49 rfl dX5_close_133 ?_
                refine x_copyK l_X5_113 (Fw49.at (by omega) (Fw30.at (by omega) e1)) (Fw49.at (by omega) (Fw30.at (by omega) e3)) rfl rfl rfl (by simp only [List.length_map]; omega) (by simp only [List.length_map]; omega) (by omega) (Nat.le_of_ble_eq_true rfl) dX5_close_136 (fun sw50 gw50 Fw50 => ?_)
                rw [zcpy_N (by assumption) (by assumption) hm] at gw50
                exact x_vret ⟨Nat.le_refl _, Nat.le_refl _⟩ rfl dX5_close_139 ⟨rfl, by rw [clS_c (fun q => absurd q.2 (by rw [hv27, hv29]; decide)) hv31 (by rw [totI, if_pos ⟨by omega, by omega⟩]) (Or.inl hv48)]; exact ⟨(Fw50.at (by omega) gw49), (Fw50.at (by omega) (Fw49.at (by omega) (Fw30.at (by omega) e1))), (Fw50.at (by omega) (Fw49.at (by omega) (Fw30.at (by omega) e2))), gw50, (Fw50.at (by omega) (Fw49.at (by omega) (Fw30.at (by omega) e4))), (Fw50.at (by omega) (Fw49.at (by omega) (Fw30.at (by omega) e5))), (by first | assumption | (simp only [List.length_map, List.length_set, cpN_len] <;> assumption)), (by first | assumption | (simp only [List.length_map, List.length_set, cpN_len] <;> assumption)), (by first | assumption | (simp only [List.length_map, List.length_set, cpN_len] <;> assumption)), (by first | assumption | (simp only [List.length_map, List.length_set, cpN_len] <;> assumption)), (by first | assumption | (simp only [List.length_map, List.length_set, cpN_len] <;> assumption))⟩, (((Fr.rf.tr (Fw30.mono (fun i hi => by omega))).tr (Fw49.mono (fun i hi => by omega))).tr (Fw50.mono (fun i hi => by omega)))⟩
              · refine x_iload_n dX5_close_109 rfl ?_
                refine x_aload_n dX5_close_110 rfl ?_
                refine x_get (v := .int bw) f_X5_96 gw30 rfl dX5_close_111 ?_
                refine x_icmpT_le (p := ((sum + (Wo.getD ((((m - 1) * 7 + ((t.getD (m - 1) 0))) * 7 + ((t.getD 0 0)))) 0))).toInt) (q := (bw).toInt) (tgt := 139) rfl rfl dX5_close_114 (by decide) (fun hv51 => ?_) (fun hv51 => ?_)
                · exact x_vret ⟨Nat.le_refl _, Nat.le_refl _⟩ rfl dX5_close_139 ⟨rfl, by rw [clS_d (fun q => absurd q.2 (by rw [hv27, hv29]; decide)) hv31 (by rw [totI, if_pos ⟨by omega, by omega⟩]) (by omega)]; exact ⟨gw30, (Fw30.at (by omega) e1), (Fw30.at (by omega) e2), (Fw30.at (by omega) e3), (Fw30.at (by omega) e4), (Fw30.at (by omega) e5), (by first | assumption | (simp only [List.length_map, List.length_set, cpN_len] <;> assumption)), (by first | assumption | (simp only [List.length_map, List.length_set, cpN_len] <;> assumption)), (by first | assumption | (simp only [List.length_map, List.length_set, cpN_len] <;> assumption)), (by first | assumption | (simp only [List.length_map, List.length_set, cpN_len] <;> assumption)), (by first | assumption | (simp only [List.length_map, List.length_set, cpN_len] <;> assumption))⟩, (Fr.rf.tr (Fw30.mono (fun i hi => by omega)))⟩
                · refine x_aload_n dX5_close_117 rfl ?_
                  refine x_iload_n dX5_close_118 rfl ?_
                  refine x_putK f_X5_96 gw30 (Nat.le_of_ble_eq_true rfl) (fun c => ⟨rfl, rfl⟩) dX5_close_119 (fun sw52 gw52 Fw52 => ?_)
                  refine x_aload_n dX5_close_122 rfl ?_
                  refine x_get (v := .ref 23) f_X5_9 gw52 rfl dX5_close_123 ?_
                  refine x_iconst (v := nI 0) dX5_close_126 (by decide) ?_
                  refine x_aload_n dX5_close_127 rfl ?_
                  refine x_get (v := .ref 25) f_X5_18 gw52 rfl dX5_close_128 ?_
                  refine x_iconst (v := nI 0) dX5_close_131 (by decide) ?_
                  refine x_aload_n dX5_close_132 rfl ?_
                  refine x_get (v := .int (nI m)) f_X5_37 gw52 rfl dX5_close_133 ?_
                  refine x_copyK l_X5_113 (Fw52.at (by omega) (Fw30.at (by omega) e1)) (Fw52.at (by omega) (Fw30.at (by omega) e3)) rfl rfl rfl (by simp only [List.length_map]; omega) (by simp only [List.length_map]; omega) (by omega) (Nat.le_of_ble_eq_true rfl) dX5_close_136 (fun sw53 gw53 Fw53 => ?_)
                  rw [zcpy_N (by assumption) (by assumption) hm] at gw53
                  exact x_vret ⟨Nat.le_refl _, Nat.le_refl _⟩ rfl dX5_close_139 ⟨rfl, by rw [clS_c (fun q => absurd q.2 (by rw [hv27, hv29]; decide)) hv31 (by rw [totI, if_pos ⟨by omega, by omega⟩]) (Or.inr hv51)]; exact ⟨(Fw53.at (by omega) gw52), (Fw53.at (by omega) (Fw52.at (by omega) (Fw30.at (by omega) e1))), (Fw53.at (by omega) (Fw52.at (by omega) (Fw30.at (by omega) e2))), gw53, (Fw53.at (by omega) (Fw52.at (by omega) (Fw30.at (by omega) e4))), (Fw53.at (by omega) (Fw52.at (by omega) (Fw30.at (by omega) e5))), (by first | assumption | (simp only [List.length_map, List.length_set, cpN_len] <;> assumption)), (by first | assumption | (simp only [List.length_map, List.length_set, cpN_len] <;> assumption)), (by first | assumption | (simp only [List.length_map, List.length_set, cpN_len] <;> assumption)), (by first | assumption | (simp only [List.length_map, List.length_set, cpN_len] <;> assumption)), (by first | assumption | (simp only [List.length_map, List.length_set, cpN_len] <;> assumption))⟩, (((Fr.rf.tr (Fw30.mono (fun i hi => by omega))).tr (Fw52.mono (fun i hi => by omega))).tr (Fw53.mono (fun i hi => by omega)))⟩
        · exact x_vret ⟨Nat.le_refl _, Nat.le_refl _⟩ rfl dX5_close_46 ⟨rfl, by rw [clS_b (fun q => absurd q.2 (by rw [hv27, hv29]; decide)) hv31]; exact ⟨gw30, (Fw30.at (by omega) e1), (Fw30.at (by omega) e2), (Fw30.at (by omega) e3), (Fw30.at (by omega) e4), (Fw30.at (by omega) e5), (by first | assumption | (simp only [List.length_map, List.length_set, cpN_len] <;> assumption)), (by first | assumption | (simp only [List.length_map, List.length_set, cpN_len] <;> assumption)), (by first | assumption | (simp only [List.length_map, List.length_set, cpN_len] <;> assumption)), (by first | assumption | (simp only [List.length_map, List.length_set, cpN_len] <;> assumption)), (by first | assumption | (simp only [List.length_map, List.length_set, cpN_len] <;> assumption))⟩, (Fr.rf.tr (Fw30.mono (fun i hi => by omega)))⟩
      · exact x_vret ⟨Nat.le_refl _, Nat.le_refl _⟩ rfl dX5_close_28 ⟨rfl, by rw [clS_a ⟨by omega, by rw [hv27, hv29]; rfl⟩]; exact h, Fr.rf⟩
set_option maxHeartbeats 4000000 in
theorem l_place {en : Int32} {A m : Nat} {r j : Bool} {wl : List (Option Nat)} {Wo Ho : List Int32} (hm : m ≤ 7) (hA : A < 128) (hw : W7 wl) {f seat taken : Nat} {sum : Int32} {σ0 : ZS} (hsf : seat + (f + 1) = m) (htk : taken < 128) (hIH : ∀ (taken : Nat) (sum : Int32) (q : QS) (σ : ZS), taken < 128 → SeQ σ r j A m wl Wo Ho en q → Q7 q → Cn (f + 3) M_X5_place 0 0 [.ref 22, .int (nI (seat + 1)), .int (nI taken), .int sum] σ (fun r9 σ' => r9 = none ∧ SeQ σ' r j A m wl Wo Ho en (plS r j A m wl Wo Ho en f (seat + 1) taken sum q) ∧ Q7 (plS r j A m wl Wo Ho en f (seat + 1) taken sum q) ∧ Fr (fun i => 22 ≤ i ∧ i ≤ 25) σ σ')) {d : Nat} (hd : f + 4 ≤ d) : ∀ (c k : Nat) (q : QS) (σ : ZS) (hq : SeQ σ r j A m wl Wo Ho en q) (h7 : Q7 q) (hF : Fr (fun i => 22 ≤ i ∧ i ≤ 25) σ0 σ), k + c = 7 → X M_X5_place d 0 0 (fun r9 σ' => r9 = none ∧ SeQ σ' r j A m wl Wo Ho en (plL r j A m wl Wo Ho en f seat taken sum c k q) ∧ Q7 (plL r j A m wl Wo Ho en f seat taken sum c k q) ∧ Fr (fun i => 22 ≤ i ∧ i ≤ 25) σ0 σ') 0 0 81 [some (.ref 22), some (.int (nI seat)), some (.int (nI taken)), some (.int sum), some (.int (nI ((opS r A seat taken)))), some (.int (nI k))] [] σ := by
  intro c
  induction c with
  | zero =>
    intro k q σ hq h7 hF hk
    obtain ⟨t, B, bw, fd⟩ := q
    have h : Se σ bw (nI A) (nI m) (bI r) (bI j) fd en (t.map nI) (wl.map oI) (B.map nI) Wo Ho := hq
    obtain ⟨ht, hB⟩ := id h7
    obtain ⟨e0, e1, e2, e3, e4, e5, l1, l2, l3, l4, l5⟩ := id h
    obtain ⟨ht7, htb⟩ := id ht
    obtain ⟨hw7, hwb⟩ := id hw
    obtain ⟨hB7, hBb⟩ := id hB
    have hop := op128 (r := r) (seat := seat) (taken := taken) hA
    refine x_iload dX5_place_81 rfl ?_
    refine x_bipush (v := nI 7) dX5_place_83 (by decide) ?_
    refine x_icmpN_ge (tgt := 151) dX5_place_85 (by decide) (by omega) (by omega) (fun hv1 => ?_) (fun hv1 => ?_)
    · exact x_vret ⟨Nat.le_refl _, Nat.le_refl _⟩ rfl dX5_place_151 ⟨rfl, hq, h7, hF⟩
    · exact absurd hv1 (by omega)
  | succ c ih =>
    intro k q σ hq h7 hF hk
    obtain ⟨t, B, bw, fd⟩ := q
    have h : Se σ bw (nI A) (nI m) (bI r) (bI j) fd en (t.map nI) (wl.map oI) (B.map nI) Wo Ho := hq
    obtain ⟨ht, hB⟩ := id h7
    obtain ⟨e0, e1, e2, e3, e4, e5, l1, l2, l3, l4, l5⟩ := id h
    obtain ⟨ht7, htb⟩ := id ht
    obtain ⟨hw7, hwb⟩ := id hw
    obtain ⟨hB7, hBb⟩ := id hB
    have hop := op128 (r := r) (seat := seat) (taken := taken) hA
    refine x_iload dX5_place_81 rfl ?_
    refine x_bipush (v := nI 7) dX5_place_83 (by decide) ?_
    refine x_icmpN_ge (tgt := 151) dX5_place_85 (by decide) (by omega) (by omega) (fun hv1 => ?_) (fun hv1 => ?_)
    · exact absurd hv1 (by omega)
    · refine x_aload_n dX5_place_88 rfl ?_
      refine x_get (v := .int fd) f_X5_85 e0 rfl dX5_place_89 ?_
      refine x_aload_n dX5_place_92 rfl ?_
      refine x_get (v := .int en) f_X5_88 e0 rfl dX5_place_93 ?_
      refine x_icmpT_ge (p := (fd).toInt) (q := (en).toInt) (tgt := 151) rfl rfl dX5_place_96 (by decide) (fun hv2 => ?_) (fun hv2 => ?_)
      · exact x_vret ⟨Nat.le_refl _, Nat.le_refl _⟩ rfl dX5_place_151 ⟨rfl, by rw [plL_stop _ _ _ (by have := hv2; exact Int.not_lt.mpr this)]; exact ⟨hq, h7, hF⟩⟩
      · refine x_iload dX5_place_99 rfl ?_
        refine x_iload dX5_place_101 rfl ?_
        refine x_callS m_X2_isIn l_X5_48 (c_isIn (by omega) (by omega)) (by omega) rfl rfl (Nat.le_of_ble_eq_true rfl) ⟨Nat.le_refl _, Nat.le_refl _⟩ dX5_place_103 (fun r3 s3 q3 => ?_)
        obtain ⟨rfl, eq3⟩ := q3
        obtain rfl := eq3.symm
        refine x_stk (st' := [.int (bI (((opS r A seat taken).testBit k)))]) rfl ?_
        refine x_ifB_eq (tgt := 145) dX5_place_106 (by decide) (fun hv4 => ?_) (fun hv4 => ?_)
        · refine x_iincN dX5_place_145 rfl (by decide) rfl ?_
          refine x_lv (lv' := [some (.ref 22), some (.int (nI seat)), some (.int (nI taken)), some (.int sum), some (.int (nI ((opS r A seat taken)))), some (.int (nI (k + 1)))]) rfl ?_
          refine x_goto (tgt := 81) dX5_place_148 (by decide) ?_
          rw [plL_succ, plB, if_neg (fun e => by rw [hv4] at e; exact absurd e.2 (by decide))]
          exact ih (k + 1) (t, B, bw, fd) σ hq h7 hF (by omega)
        · refine x_aload_n dX5_place_109 rfl ?_
          refine x_get (v := .ref 23) f_X5_9 e0 rfl dX5_place_110 ?_
          refine x_iload_n dX5_place_113 rfl ?_
          refine x_iload dX5_place_114 rfl ?_
          refine x_iastK (n := seat) e1 rfl (by rw [l1]; omega) dX5_place_116 (fun sw5 gw5 Fw5 => ?_)
          refine x_aload_n dX5_place_117 rfl ?_
          refine x_iload_n dX5_place_118 rfl ?_
          refine x_callV m_X5_isBearable l_X5_103 (c_isBearable ⟨(Fw5.at (by omega) e0), (gma gw5), (Fw5.at (by omega) e2), (Fw5.at (by omega) e3), (Fw5.at (by omega) e4), (Fw5.at (by omega) e5), (by first | assumption | (simp only [List.length_map, List.length_set, cpN_len] <;> assumption)), (by first | assumption | (simp only [List.length_map, List.length_set, cpN_len] <;> assumption)), (by first | assumption | (simp only [List.length_map, List.length_set, cpN_len] <;> assumption)), (by first | assumption | (simp only [List.length_map, List.length_set, cpN_len] <;> assumption)), (by first | assumption | (simp only [List.length_map, List.length_set, cpN_len] <;> assumption))⟩ hm (ht.set (by omega)) hw (by omega)) rfl (Fw5.at (by omega) e0) (by omega) rfl rfl (Nat.le_of_ble_eq_true rfl) ⟨Nat.le_refl _, Nat.le_refl _⟩ dX5_place_119 (fun r6 s6 q6 => ?_)
          obtain ⟨rfl, eq6⟩ := q6
          obtain rfl := eq6.symm
          refine x_stk (st' := [.int (bI ((bearB r m (t.set seat k) wl seat)))]) rfl ?_
          refine x_ifB_eq (tgt := 145) dX5_place_122 (by decide) (fun hv7 => ?_) (fun hv7 => ?_)
          · refine x_iincN dX5_place_145 rfl (by decide) rfl ?_
            refine x_lv (lv' := [some (.ref 22), some (.int (nI seat)), some (.int (nI taken)), some (.int sum), some (.int (nI ((opS r A seat taken)))), some (.int (nI (k + 1)))]) rfl ?_
            refine x_goto (tgt := 81) dX5_place_148 (by decide) ?_
            rw [plL_succ, plB, if_pos ⟨hv2, hv4⟩, if_neg (by rw [hv7]; decide)]
            exact ih (k + 1) (t.set seat k, B, bw, fd) sw5 ⟨(Fw5.at (by omega) e0), (gma gw5), (Fw5.at (by omega) e2), (Fw5.at (by omega) e3), (Fw5.at (by omega) e4), (Fw5.at (by omega) e5), (by first | assumption | (simp only [List.length_map, List.length_set, cpN_len] <;> assumption)), (by first | assumption | (simp only [List.length_map, List.length_set, cpN_len] <;> assumption)), (by first | assumption | (simp only [List.length_map, List.length_set, cpN_len] <;> assumption)), (by first | assumption | (simp only [List.length_map, List.length_set, cpN_len] <;> assumption)), (by first | assumption | (simp only [List.length_map, List.length_set, cpN_len] <;> assumption))⟩ ⟨ht.set (by omega), hB⟩ (hF.tr (Fr.rf.tr (Fw5.mono (fun i hi => by omega)))) (by omega)
          · refine x_aload_n dX5_place_125 rfl ?_
            refine x_iload_n dX5_place_126 rfl ?_
            refine x_iconst (v := nI 1) dX5_place_127 (by decide) ?_
            refine x_iaddN dX5_place_128 ?_
            refine x_iload_n dX5_place_129 rfl ?_
            refine x_iconst (v := nI 1) dX5_place_130 (by decide) ?_
            refine x_iload dX5_place_131 rfl ?_
            refine x_ishl dX5_place_133 ?_
            refine x_topi (y := nI (2 ^ k)) (z_shl1 (by omega)) ?_
            refine x_iorN dX5_place_134 ?_
            refine x_iload_n dX5_place_135 rfl ?_
            refine x_aload_n dX5_place_136 rfl ?_
            refine x_iload_n dX5_place_137 rfl ?_
            refine x_callV m_X5_added l_X5_106 (c_added ⟨(Fw5.at (by omega) e0), (gma gw5), (Fw5.at (by omega) e2), (Fw5.at (by omega) e3), (Fw5.at (by omega) e4), (Fw5.at (by omega) e5), (by first | assumption | (simp only [List.length_map, List.length_set, cpN_len] <;> assumption)), (by first | assumption | (simp only [List.length_map, List.length_set, cpN_len] <;> assumption)), (by first | assumption | (simp only [List.length_map, List.length_set, cpN_len] <;> assumption)), (by first | assumption | (simp only [List.length_map, List.length_set, cpN_len] <;> assumption)), (by first | assumption | (simp only [List.length_map, List.length_set, cpN_len] <;> assumption))⟩ hm (ht.set (by omega)) hw (by omega)) rfl (Fw5.at (by omega) e0) (by omega) rfl rfl (Nat.le_of_ble_eq_true rfl) ⟨Nat.le_refl _, Nat.le_refl _⟩ dX5_place_138 (fun r8 s8 q8 => ?_)
            obtain ⟨rfl, eq8⟩ := q8
            obtain rfl := eq8.symm
            refine x_stk (st' := [.int ((addI j (t.set seat k) Wo seat)), .int sum, .int (nI (taken ||| (2 ^ k))), .int (nI (seat + 1)), .ref 22]) rfl ?_
            refine x_iadd dX5_place_141 ?_
            refine x_callV m_X5_place l_X5_91 (hIH (taken ||| 2 ^ k) (sum + addI j (t.set seat k) Wo seat) (t.set seat k, B, bw, fd) sw5 (or128 htk (by omega)) ⟨(Fw5.at (by omega) e0), (gma gw5), (Fw5.at (by omega) e2), (Fw5.at (by omega) e3), (Fw5.at (by omega) e4), (Fw5.at (by omega) e5), (by first | assumption | (simp only [List.length_map, List.length_set, cpN_len] <;> assumption)), (by first | assumption | (simp only [List.length_map, List.length_set, cpN_len] <;> assumption)), (by first | assumption | (simp only [List.length_map, List.length_set, cpN_len] <;> assumption)), (by first | assumption | (simp only [List.length_map, List.length_set, cpN_len] <;> assumption)), (by first | assumption | (simp only [List.length_map, List.length_set, cpN_len] <;> assumption))⟩ ⟨ht.set (by omega), hB⟩) rfl (Fw5.at (by omega) e0) (by omega) rfl rfl (Nat.le_of_ble_eq_true rfl) ⟨Nat.le_refl _, Nat.le_refl _⟩ dX5_place_142 (fun r9 s9 q9 => ?_)
            obtain ⟨rfl, hq9, h79, F9⟩ := q9
            refine x_stk (st' := []) rfl ?_
            refine x_iincN dX5_place_145 rfl (by decide) rfl ?_
            refine x_lv (lv' := [some (.ref 22), some (.int (nI seat)), some (.int (nI taken)), some (.int sum), some (.int (nI ((opS r A seat taken)))), some (.int (nI (k + 1)))]) rfl ?_
            refine x_goto (tgt := 81) dX5_place_148 (by decide) ?_
            rw [plL_succ, plB, if_pos ⟨hv2, hv4⟩, if_pos hv7]
            exact ih (k + 1) _ s9 hq9 h79 (hF.tr ((Fr.rf.tr (Fw5.mono (fun i hi => by omega))).tr (F9.mono (fun i hi => by omega)))) (by omega)
set_option maxHeartbeats 4000000 in
theorem c_place {en : Int32} {A m : Nat} {r j : Bool} {wl : List (Option Nat)} {Wo Ho : List Int32} (hm : m ≤ 7) (hA : A < 128) (hw : W7 wl) : ∀ (f seat taken : Nat) (sum : Int32) (q : QS) (σ : ZS), seat + f = m → taken < 128 → SeQ σ r j A m wl Wo Ho en q → Q7 q → Cn (f + 3) M_X5_place 0 0 [.ref 22, .int (nI seat), .int (nI taken), .int sum] σ (fun r9 σ' => r9 = none ∧ SeQ σ' r j A m wl Wo Ho en (plS r j A m wl Wo Ho en f seat taken sum q) ∧ Q7 (plS r j A m wl Wo Ho en f seat taken sum q) ∧ Fr (fun i => 22 ≤ i ∧ i ≤ 25) σ σ') := by
  intro f
  induction f with
  | zero =>
    intro seat taken sum q σ hsf htk hq h7
    obtain ⟨t, B, bw, fd⟩ := q
    have h : Se σ bw (nI A) (nI m) (bI r) (bI j) fd en (t.map nI) (wl.map oI) (B.map nI) Wo Ho := hq
    obtain ⟨ht, hB⟩ := id h7
    obtain ⟨e0, e1, e2, e3, e4, e5, l1, l2, l3, l4, l5⟩ := id h
    obtain ⟨ht7, htb⟩ := id ht
    obtain ⟨hw7, hwb⟩ := id hw
    obtain ⟨hB7, hBb⟩ := id hB
    have hop := op128 (r := r) (seat := seat) (taken := taken) hA
    refine Cn.intro (lv0 := [some (.ref 22), some (.int (nI seat)), some (.int (nI taken)), some (.int sum), none, none]) rfl (Nat.le_of_ble_eq_true rfl) rfl (fun d hd => ?_)
    refine x_iload_n dX5_place_0 rfl ?_
    refine x_aload_n dX5_place_1 rfl ?_
    refine x_get (v := .int (nI m)) f_X5_37 e0 rfl dX5_place_2 ?_
    refine x_icmpN_lt (tgt := 14) dX5_place_5 (by decide) (by omega) (by omega) (fun hv1 => ?_) (fun hv1 => ?_)
    · exact absurd hv1 (by omega)
    · refine x_aload_n dX5_place_8 rfl ?_
      refine x_iload_n dX5_place_9 rfl ?_
      refine x_callV m_X5_close l_X5_99 (c_close h hm ht hw hB) rfl e0 (by omega) rfl rfl (Nat.le_of_ble_eq_true rfl) ⟨Nat.le_refl _, Nat.le_refl _⟩ dX5_place_10 (fun r2 s2 q2 => ?_)
      obtain ⟨rfl, hq2, F2⟩ := q2
      refine x_stk (st' := []) rfl ?_
      exact x_vret ⟨Nat.le_refl _, Nat.le_refl _⟩ rfl dX5_place_13 ⟨rfl, hq2, clS_ok h7, F2⟩
  | succ f ihf =>
    intro seat taken sum q σ hsf htk hq h7
    obtain ⟨t, B, bw, fd⟩ := q
    have h : Se σ bw (nI A) (nI m) (bI r) (bI j) fd en (t.map nI) (wl.map oI) (B.map nI) Wo Ho := hq
    obtain ⟨ht, hB⟩ := id h7
    obtain ⟨e0, e1, e2, e3, e4, e5, l1, l2, l3, l4, l5⟩ := id h
    obtain ⟨ht7, htb⟩ := id ht
    obtain ⟨hw7, hwb⟩ := id hw
    obtain ⟨hB7, hBb⟩ := id hB
    have hop := op128 (r := r) (seat := seat) (taken := taken) hA
    refine Cn.intro (lv0 := [some (.ref 22), some (.int (nI seat)), some (.int (nI taken)), some (.int sum), none, none]) rfl (Nat.le_of_ble_eq_true rfl) rfl (fun d hd => ?_)
    refine x_iload_n dX5_place_0 rfl ?_
    refine x_aload_n dX5_place_1 rfl ?_
    refine x_get (v := .int (nI m)) f_X5_37 e0 rfl dX5_place_2 ?_
    refine x_icmpN_lt (tgt := 14) dX5_place_5 (by decide) (by omega) (by omega) (fun hv1 => ?_) (fun hv1 => ?_)
    · refine x_aload_n dX5_place_14 rfl ?_
      refine x_get (v := .int (bI j)) f_X5_82 e0 rfl dX5_place_15 ?_
      refine x_ifB_eq (tgt := 44) dX5_place_18 (by decide) (fun hv2 => ?_) (fun hv2 => ?_)
      · refine x_iload_n dX5_place_44 rfl ?_
        refine x_ifN_ne (tgt := 68) dX5_place_45 (by decide) (by omega) (fun hv3 => ?_) (fun hv3 => ?_)
        · refine x_aload_n dX5_place_68 rfl ?_
          refine x_get (v := .int (nI A)) f_X5_27 e0 rfl dX5_place_69 ?_
          refine x_iload_n dX5_place_72 rfl ?_
          refine x_iconst (v := (-1)) dX5_place_73 (by decide) ?_
          refine x_ixor dX5_place_74 ?_
          refine x_iand dX5_place_75 ?_
          refine x_topi (y := nI (opS r A seat taken)) (by rw [opS, if_neg (fun e => by omega)]; exact andA hA htk) ?_
          refine x_istore dX5_place_76 (by decide) rfl ?_
          refine x_lv (lv' := [some (.ref 22), some (.int (nI seat)), some (.int (nI taken)), some (.int sum), some (.int (nI ((opS r A seat taken)))), none]) rfl ?_
          refine x_iconst (v := nI 0) dX5_place_78 (by decide) ?_
          refine x_istore dX5_place_79 (by decide) rfl ?_
          refine x_lv (lv' := [some (.ref 22), some (.int (nI seat)), some (.int (nI taken)), some (.int sum), some (.int (nI ((opS r A seat taken)))), some (.int (nI 0))]) rfl ?_
          have e : plS r j A m wl Wo Ho en (f + 1) seat taken sum (t, B, bw, fd) = plL r j A m wl Wo Ho en f seat taken sum 7 0 (t, B, bw, fd) := by rw [plS_succ, if_neg (fun e => absurd e.1 (by rw [hv2]; decide))]
          rw [e]
          exact l_place hm hA hw hsf htk (fun tk sm q2 σ2 a1 a2 a3 => ihf (seat + 1) tk sm q2 σ2 (by omega) a1 a2 a3) hd 7 0 (t, B, bw, fd) σ hq h7 Fr.rf (by omega)
        · refine x_aload_n dX5_place_48 rfl ?_
          refine x_get (v := .int (bI r)) f_X5_45 e0 rfl dX5_place_49 ?_
          refine x_ifB_eq (tgt := 68) dX5_place_52 (by decide) (fun hv4 => ?_) (fun hv4 => ?_)
          · refine x_aload_n dX5_place_68 rfl ?_
            refine x_get (v := .int (nI A)) f_X5_27 e0 rfl dX5_place_69 ?_
            refine x_iload_n dX5_place_72 rfl ?_
            refine x_iconst (v := (-1)) dX5_place_73 (by decide) ?_
            refine x_ixor dX5_place_74 ?_
            refine x_iand dX5_place_75 ?_
            refine x_topi (y := nI (opS r A seat taken)) (by rw [opS, if_neg (fun e => absurd e.2 (by rw [hv4]; decide))]; exact andA hA htk) ?_
            refine x_istore dX5_place_76 (by decide) rfl ?_
            refine x_lv (lv' := [some (.ref 22), some (.int (nI seat)), some (.int (nI taken)), some (.int sum), some (.int (nI ((opS r A seat taken)))), none]) rfl ?_
            refine x_iconst (v := nI 0) dX5_place_78 (by decide) ?_
            refine x_istore dX5_place_79 (by decide) rfl ?_
            refine x_lv (lv' := [some (.ref 22), some (.int (nI seat)), some (.int (nI taken)), some (.int sum), some (.int (nI ((opS r A seat taken)))), some (.int (nI 0))]) rfl ?_
            have e : plS r j A m wl Wo Ho en (f + 1) seat taken sum (t, B, bw, fd) = plL r j A m wl Wo Ho en f seat taken sum 7 0 (t, B, bw, fd) := by rw [plS_succ, if_neg (fun e => absurd e.1 (by rw [hv2]; decide))]
            rw [e]
            exact l_place hm hA hw hsf htk (fun tk sm q2 σ2 a1 a2 a3 => ihf (seat + 1) tk sm q2 σ2 (by omega) a1 a2 a3) hd 7 0 (t, B, bw, fd) σ hq h7 Fr.rf (by omega)
          · refine x_aload_n dX5_place_55 rfl ?_
            refine x_get (v := .int (nI A)) f_X5_27 e0 rfl dX5_place_56 ?_
            refine x_aload_n dX5_place_59 rfl ?_
            refine x_get (v := .int (nI A)) f_X5_27 e0 rfl dX5_place_60 ?_
            refine x_ineg dX5_place_63 ?_
            refine x_iand dX5_place_64 ?_
            refine x_goto (tgt := 76) dX5_place_65 (by decide) ?_
            refine x_topi (y := nI (opS r A seat taken)) (by rw [opS, if_pos ⟨by omega, hv4⟩]; exact lowA A hA) ?_
            refine x_istore dX5_place_76 (by decide) rfl ?_
            refine x_lv (lv' := [some (.ref 22), some (.int (nI seat)), some (.int (nI taken)), some (.int sum), some (.int (nI ((opS r A seat taken)))), none]) rfl ?_
            refine x_iconst (v := nI 0) dX5_place_78 (by decide) ?_
            refine x_istore dX5_place_79 (by decide) rfl ?_
            refine x_lv (lv' := [some (.ref 22), some (.int (nI seat)), some (.int (nI taken)), some (.int sum), some (.int (nI ((opS r A seat taken)))), some (.int (nI 0))]) rfl ?_
            have e : plS r j A m wl Wo Ho en (f + 1) seat taken sum (t, B, bw, fd) = plL r j A m wl Wo Ho en f seat taken sum 7 0 (t, B, bw, fd) := by rw [plS_succ, if_neg (fun e => absurd e.1 (by rw [hv2]; decide))]
            rw [e]
            exact l_place hm hA hw hsf htk (fun tk sm q2 σ2 a1 a2 a3 => ihf (seat + 1) tk sm q2 σ2 (by omega) a1 a2 a3) hd 7 0 (t, B, bw, fd) σ hq h7 Fr.rf (by omega)
      · refine x_aload_n dX5_place_21 rfl ?_
        refine x_get (v := .int fd) f_X5_85 e0 rfl dX5_place_22 ?_
        refine x_ifT_le (p := (fd).toInt) (tgt := 44) rfl dX5_place_25 (by decide) (fun hv5 => ?_) (fun hv5 => ?_)
        · refine x_iload_n dX5_place_44 rfl ?_
          refine x_ifN_ne (tgt := 68) dX5_place_45 (by decide) (by omega) (fun hv6 => ?_) (fun hv6 => ?_)
          · refine x_aload_n dX5_place_68 rfl ?_
            refine x_get (v := .int (nI A)) f_X5_27 e0 rfl dX5_place_69 ?_
            refine x_iload_n dX5_place_72 rfl ?_
            refine x_iconst (v := (-1)) dX5_place_73 (by decide) ?_
            refine x_ixor dX5_place_74 ?_
            refine x_iand dX5_place_75 ?_
            refine x_topi (y := nI (opS r A seat taken)) (by rw [opS, if_neg (fun e => by omega)]; exact andA hA htk) ?_
            refine x_istore dX5_place_76 (by decide) rfl ?_
            refine x_lv (lv' := [some (.ref 22), some (.int (nI seat)), some (.int (nI taken)), some (.int sum), some (.int (nI ((opS r A seat taken)))), none]) rfl ?_
            refine x_iconst (v := nI 0) dX5_place_78 (by decide) ?_
            refine x_istore dX5_place_79 (by decide) rfl ?_
            refine x_lv (lv' := [some (.ref 22), some (.int (nI seat)), some (.int (nI taken)), some (.int sum), some (.int (nI ((opS r A seat taken)))), some (.int (nI 0))]) rfl ?_
            have e : plS r j A m wl Wo Ho en (f + 1) seat taken sum (t, B, bw, fd) = plL r j A m wl Wo Ho en f seat taken sum 7 0 (t, B, bw, fd) := by rw [plS_succ, if_neg (fun e => by have e2 : 0 < fd.toInt := e.2.1; have e3 : (sum + Ho.getD seat 0).toInt ≤ bw.toInt := e.2.2; omega)]
            rw [e]
            exact l_place hm hA hw hsf htk (fun tk sm q2 σ2 a1 a2 a3 => ihf (seat + 1) tk sm q2 σ2 (by omega) a1 a2 a3) hd 7 0 (t, B, bw, fd) σ hq h7 Fr.rf (by omega)
          · refine x_aload_n dX5_place_48 rfl ?_
            refine x_get (v := .int (bI r)) f_X5_45 e0 rfl dX5_place_49 ?_
            refine x_ifB_eq (tgt := 68) dX5_place_52 (by decide) (fun hv7 => ?_) (fun hv7 => ?_)
            · refine x_aload_n dX5_place_68 rfl ?_
              refine x_get (v := .int (nI A)) f_X5_27 e0 rfl dX5_place_69 ?_
              refine x_iload_n dX5_place_72 rfl ?_
              refine x_iconst (v := (-1)) dX5_place_73 (by decide) ?_
              refine x_ixor dX5_place_74 ?_
              refine x_iand dX5_place_75 ?_
              refine x_topi (y := nI (opS r A seat taken)) (by rw [opS, if_neg (fun e => absurd e.2 (by rw [hv7]; decide))]; exact andA hA htk) ?_
              refine x_istore dX5_place_76 (by decide) rfl ?_
              refine x_lv (lv' := [some (.ref 22), some (.int (nI seat)), some (.int (nI taken)), some (.int sum), some (.int (nI ((opS r A seat taken)))), none]) rfl ?_
              refine x_iconst (v := nI 0) dX5_place_78 (by decide) ?_
              refine x_istore dX5_place_79 (by decide) rfl ?_
              refine x_lv (lv' := [some (.ref 22), some (.int (nI seat)), some (.int (nI taken)), some (.int sum), some (.int (nI ((opS r A seat taken)))), some (.int (nI 0))]) rfl ?_
              have e : plS r j A m wl Wo Ho en (f + 1) seat taken sum (t, B, bw, fd) = plL r j A m wl Wo Ho en f seat taken sum 7 0 (t, B, bw, fd) := by rw [plS_succ, if_neg (fun e => by have e2 : 0 < fd.toInt := e.2.1; have e3 : (sum + Ho.getD seat 0).toInt ≤ bw.toInt := e.2.2; omega)]
              rw [e]
              exact l_place hm hA hw hsf htk (fun tk sm q2 σ2 a1 a2 a3 => ihf (seat + 1) tk sm q2 σ2 (by omega) a1 a2 a3) hd 7 0 (t, B, bw, fd) σ hq h7 Fr.rf (by omega)
            · refine x_aload_n dX5_place_55 rfl ?_
              refine x_get (v := .int (nI A)) f_X5_27 e0 rfl dX5_place_56 ?_
              refine x_aload_n dX5_place_59 rfl ?_
              refine x_get (v := .int (nI A)) f_X5_27 e0 rfl dX5_place_60 ?_
              refine x_ineg dX5_place_63 ?_
              refine x_iand dX5_place_64 ?_
              refine x_goto (tgt := 76) dX5_place_65 (by decide) ?_
              refine x_topi (y := nI (opS r A seat taken)) (by rw [opS, if_pos ⟨by omega, hv7⟩]; exact lowA A hA) ?_
              refine x_istore dX5_place_76 (by decide) rfl ?_
              refine x_lv (lv' := [some (.ref 22), some (.int (nI seat)), some (.int (nI taken)), some (.int sum), some (.int (nI ((opS r A seat taken)))), none]) rfl ?_
              refine x_iconst (v := nI 0) dX5_place_78 (by decide) ?_
              refine x_istore dX5_place_79 (by decide) rfl ?_
              refine x_lv (lv' := [some (.ref 22), some (.int (nI seat)), some (.int (nI taken)), some (.int sum), some (.int (nI ((opS r A seat taken)))), some (.int (nI 0))]) rfl ?_
              have e : plS r j A m wl Wo Ho en (f + 1) seat taken sum (t, B, bw, fd) = plL r j A m wl Wo Ho en f seat taken sum 7 0 (t, B, bw, fd) := by rw [plS_succ, if_neg (fun e => by have e2 : 0 < fd.toInt := e.2.1; have e3 : (sum + Ho.getD seat 0).toInt ≤ bw.toInt := e.2.2; omega)]
              rw [e]
              exact l_place hm hA hw hsf htk (fun tk sm q2 σ2 a1 a2 a3 => ihf (seat + 1) tk sm q2 σ2 (by omega) a1 a2 a3) hd 7 0 (t, B, bw, fd) σ hq h7 Fr.rf (by omega)
        · refine x_iload_n dX5_place_28 rfl ?_
          refine x_aload_n dX5_place_29 rfl ?_
          refine x_get (v := .ref 27) f_X5_24 e0 rfl dX5_place_30 ?_
          refine x_iload_n dX5_place_33 rfl ?_
          refine x_iald (n := seat) e5 rfl (by rw [l5]; omega) dX5_place_34 ?_
          refine x_iadd dX5_place_35 ?_
          refine x_aload_n dX5_place_36 rfl ?_
          refine x_get (v := .int bw) f_X5_96 e0 rfl dX5_place_37 ?_
          refine x_icmpT_gt (p := ((sum + (Ho.getD seat 0))).toInt) (q := (bw).toInt) (tgt := 44) rfl rfl dX5_place_40 (by decide) (fun hv8 => ?_) (fun hv8 => ?_)
          · refine x_iload_n dX5_place_44 rfl ?_
            refine x_ifN_ne (tgt := 68) dX5_place_45 (by decide) (by omega) (fun hv9 => ?_) (fun hv9 => ?_)
            · refine x_aload_n dX5_place_68 rfl ?_
              refine x_get (v := .int (nI A)) f_X5_27 e0 rfl dX5_place_69 ?_
              refine x_iload_n dX5_place_72 rfl ?_
              refine x_iconst (v := (-1)) dX5_place_73 (by decide) ?_
              refine x_ixor dX5_place_74 ?_
              refine x_iand dX5_place_75 ?_
              refine x_topi (y := nI (opS r A seat taken)) (by rw [opS, if_neg (fun e => by omega)]; exact andA hA htk) ?_
              refine x_istore dX5_place_76 (by decide) rfl ?_
              refine x_lv (lv' := [some (.ref 22), some (.int (nI seat)), some (.int (nI taken)), some (.int sum), some (.int (nI ((opS r A seat taken)))), none]) rfl ?_
              refine x_iconst (v := nI 0) dX5_place_78 (by decide) ?_
              refine x_istore dX5_place_79 (by decide) rfl ?_
              refine x_lv (lv' := [some (.ref 22), some (.int (nI seat)), some (.int (nI taken)), some (.int sum), some (.int (nI ((opS r A seat taken)))), some (.int (nI 0))]) rfl ?_
              have e : plS r j A m wl Wo Ho en (f + 1) seat taken sum (t, B, bw, fd) = plL r j A m wl Wo Ho en f seat taken sum 7 0 (t, B, bw, fd) := by rw [plS_succ, if_neg (fun e => by have e2 : 0 < fd.toInt := e.2.1; have e3 : (sum + Ho.getD seat 0).toInt ≤ bw.toInt := e.2.2; omega)]
              rw [e]
              exact l_place hm hA hw hsf htk (fun tk sm q2 σ2 a1 a2 a3 => ihf (seat + 1) tk sm q2 σ2 (by omega) a1 a2 a3) hd 7 0 (t, B, bw, fd) σ hq h7 Fr.rf (by omega)
            · refine x_aload_n dX5_place_48 rfl ?_
              refine x_get (v := .int (bI r)) f_X5_45 e0 rfl dX5_place_49 ?_
              refine x_ifB_eq (tgt := 68) dX5_place_52 (by decide) (fun hv10 => ?_) (fun hv10 => ?_)
              · refine x_aload_n dX5_place_68 rfl ?_
                refine x_get (v := .int (nI A)) f_X5_27 e0 rfl dX5_place_69 ?_
                refine x_iload_n dX5_place_72 rfl ?_
                refine x_iconst (v := (-1)) dX5_place_73 (by decide) ?_
                refine x_ixor dX5_place_74 ?_
                refine x_iand dX5_place_75 ?_
                refine x_topi (y := nI (opS r A seat taken)) (by rw [opS, if_neg (fun e => absurd e.2 (by rw [hv10]; decide))]; exact andA hA htk) ?_
                refine x_istore dX5_place_76 (by decide) rfl ?_
                refine x_lv (lv' := [some (.ref 22), some (.int (nI seat)), some (.int (nI taken)), some (.int sum), some (.int (nI ((opS r A seat taken)))), none]) rfl ?_
                refine x_iconst (v := nI 0) dX5_place_78 (by decide) ?_
                refine x_istore dX5_place_79 (by decide) rfl ?_
                refine x_lv (lv' := [some (.ref 22), some (.int (nI seat)), some (.int (nI taken)), some (.int sum), some (.int (nI ((opS r A seat taken)))), some (.int (nI 0))]) rfl ?_
                have e : plS r j A m wl Wo Ho en (f + 1) seat taken sum (t, B, bw, fd) = plL r j A m wl Wo Ho en f seat taken sum 7 0 (t, B, bw, fd) := by rw [plS_succ, if_neg (fun e => by have e2 : 0 < fd.toInt := e.2.1; have e3 : (sum + Ho.getD seat 0).toInt ≤ bw.toInt := e.2.2; omega)]
                rw [e]
                exact l_place hm hA hw hsf htk (fun tk sm q2 σ2 a1 a2 a3 => ihf (seat + 1) tk sm q2 σ2 (by omega) a1 a2 a3) hd 7 0 (t, B, bw, fd) σ hq h7 Fr.rf (by omega)
              · refine x_aload_n dX5_place_55 rfl ?_
                refine x_get (v := .int (nI A)) f_X5_27 e0 rfl dX5_place_56 ?_
                refine x_aload_n dX5_place_59 rfl ?_
                refine x_get (v := .int (nI A)) f_X5_27 e0 rfl dX5_place_60 ?_
                refine x_ineg dX5_place_63 ?_
                refine x_iand dX5_place_64 ?_
                refine x_goto (tgt := 76) dX5_place_65 (by decide) ?_
                refine x_topi (y := nI (opS r A seat taken)) (by rw [opS, if_pos ⟨by omega, hv10⟩]; exact lowA A hA) ?_
                refine x_istore dX5_place_76 (by decide) rfl ?_
                refine x_lv (lv' := [some (.ref 22), some (.int (nI seat)), some (.int (nI taken)), some (.int sum), some (.int (nI ((opS r A seat taken)))), none]) rfl ?_
                refine x_iconst (v := nI 0) dX5_place_78 (by decide) ?_
                refine x_istore dX5_place_79 (by decide) rfl ?_
                refine x_lv (lv' := [some (.ref 22), some (.int (nI seat)), some (.int (nI taken)), some (.int sum), some (.int (nI ((opS r A seat taken)))), some (.int (nI 0))]) rfl ?_
                have e : plS r j A m wl Wo Ho en (f + 1) seat taken sum (t, B, bw, fd) = plL r j A m wl Wo Ho en f seat taken sum 7 0 (t, B, bw, fd) := by rw [plS_succ, if_neg (fun e => by have e2 : 0 < fd.toInt := e.2.1; have e3 : (sum + Ho.getD seat 0).toInt ≤ bw.toInt := e.2.2; omega)]
                rw [e]
                exact l_place hm hA hw hsf htk (fun tk sm q2 σ2 a1 a2 a3 => ihf (seat + 1) tk sm q2 σ2 (by omega) a1 a2 a3) hd 7 0 (t, B, bw, fd) σ hq h7 Fr.rf (by omega)
          · exact x_vret ⟨Nat.le_refl _, Nat.le_refl _⟩ rfl dX5_place_43 ⟨rfl, by rw [plS_succ, if_pos ⟨hv2, hv5, hv8⟩]; exact ⟨hq, h7, Fr.rf⟩⟩
    · exact absurd hv1 (by omega)
