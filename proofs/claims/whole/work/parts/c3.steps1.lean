/-! what a call leaves, on each side -/
theorem CIv.sc {rr dn ru n : Nat} {K N : List Nat} {W : List Int32} {D : List Nat} {kp : Bool} {r2 d2 u2 n2 : Nat} {K2 N2 : List Nat} {W2 : List Int32} {D2 : List Nat} {TX : List (List Nat)} {tp : List Nat} {sh : Nat → SH} {σ σ1 : ZS} {P : Nat → Prop} (h : CIv σ rr dn ru n K N W D kp r2 d2 u2 n2 K2 N2 W2 D2 TX tp sh) (hru : ru < TX.length) (h6 : TX.length ≤ 6) (hF : Fr P σ σ1) (hP : ∀ i, P i → (1 ≤ i ∧ i ≤ 5) ∨ (11 ≤ i ∧ i ≤ 15) ∨ i = 18 ∨ (22 ≤ i ∧ i ≤ 27) ∨ (31 ≤ i ∧ i ≤ 39) ∨ i = rIx ru + 2) {rr' dn' ru' n' : Nat} {K' N' : List Nat} {W' : List Int32} {D' : List Nat} {sh' : Nat → SH} (p1' : Pa σ1 1 (nI rr') (nI dn') (nI ru') n' K' N' W' D') (p11' : PaJ σ1 11) (sj' : SeJ σ1) {S : List Nat} {lf jf : Nat} (hp : pText (TX.getD ru []) = .inr (S, lf, jf)) (hM : MaW σ1 ru (rIx ru) (rIx ru + 1) (rIx ru + 2) S lf jf) (cs' : CSH σ1 sh') : CIv σ1 rr' dn' ru' n' K' N' W' D' kp r2 d2 u2 n2 K2 N2 W2 D2 TX tp sh' ∧ FC σ σ1 := by
  obtain ⟨k0, p1, p6, p11, sj, tx, rd, cs, ln⟩ := h
  have cR := rIx_c ru
  have tx' := tx.keep hp hM hF (fun i hi hne q => by have := hP i q; omega)
  exact ⟨⟨hF.at (fun q => by have := hP _ q; omega) k0, p1', p6.fr hF (fun i h1 h2 q => by have := hP _ q; omega), p11', sj', tx', rd.fr hF (fun i hi q => by have := hP _ q; omega), cs', Ln.cl hF ln tx' cs' hru h6 (fun i q => by have := hP i q; omega)⟩, hF.fc (fun i hi q => by have := hP i q; omega)⟩
theorem CIv.p1 {rr dn ru n : Nat} {K N : List Nat} {W : List Int32} {D : List Nat} {kp : Bool} {r2 d2 u2 n2 : Nat} {K2 N2 : List Nat} {W2 : List Int32} {D2 : List Nat} {TX : List (List Nat)} {tp : List Nat} {sh : Nat → SH} {σ σ1 : ZS} (h : CIv σ rr dn ru n K N W D kp r2 d2 u2 n2 K2 N2 W2 D2 TX tp sh) (hru : ru < TX.length) (h6 : TX.length ≤ 6) {rr' dn' ru' n' : Nat} {K' N' : List Nat} {W' : List Int32} {D' : List Nat} (hp : Pa σ1 1 (nI rr') (nI dn') (nI ru') n' K' N' W' D') (hF : Fr (fun i => 1 ≤ i ∧ i ≤ 5) σ σ1) : CIv σ1 rr' dn' ru' n' K' N' W' D' kp r2 d2 u2 n2 K2 N2 W2 D2 TX tp sh ∧ FC σ σ1 := by
  obtain ⟨k0, p1, p6, p11, sj, tx, rd, cs, ln⟩ := id h
  obtain ⟨S, lf, jf, hpt, hM⟩ := tx.ma hru h6
  have cR := rIx_c ru
  exact h.sc hru h6 hF (fun i q => Or.inl q) hp (p11.fr hF (fun i h1 h2 => by omega)) (sj.fr hF (fun i hi => by omega)) hpt (hM.fr hF (fun i hi => by omega)) (cs.fr hF (fun i h1 h2 => by omega))
/-- only search scratch has changed -/
theorem CIv.sj {rr dn ru n : Nat} {K N : List Nat} {W : List Int32} {D : List Nat} {kp : Bool} {r2 d2 u2 n2 : Nat} {K2 N2 : List Nat} {W2 : List Int32} {D2 : List Nat} {TX : List (List Nat)} {tp : List Nat} {sh : Nat → SH} {σ σ1 : ZS} {P : Nat → Prop} (h : CIv σ rr dn ru n K N W D kp r2 d2 u2 n2 K2 N2 W2 D2 TX tp sh) (hru : ru < TX.length) (h6 : TX.length ≤ 6) (hF : Fr P σ σ1) (hP : ∀ i, P i → (11 ≤ i ∧ i ≤ 15) ∨ (22 ≤ i ∧ i ≤ 27)) (p11' : PaJ σ1 11) (sj' : SeJ σ1) : CIv σ1 rr dn ru n K N W D kp r2 d2 u2 n2 K2 N2 W2 D2 TX tp sh ∧ FC σ σ1 := by
  obtain ⟨k0, p1, p6, p11, sj, tx, rd, cs, ln⟩ := id h
  obtain ⟨S, lf, jf, hpt, hM⟩ := tx.ma hru h6
  have cR := rIx_c ru
  exact h.sc hru h6 hF (fun i q => by have := hP i q; omega) (p1.fr hF (fun i h1 h2 q => by have := hP i q; omega)) p11' sj' hpt (hM.fr hF (fun i hi q => by have := hP i q; omega)) (cs.fr hF (fun i h1 h2 q => by have := hP i q; omega))
theorem CIv.sj0 {rr dn ru n : Nat} {K N : List Nat} {W : List Int32} {D : List Nat} {kp : Bool} {r2 d2 u2 n2 : Nat} {K2 N2 : List Nat} {W2 : List Int32} {D2 : List Nat} {TX : List (List Nat)} {tp : List Nat} {sh : Nat → SH} {σ σ1 : ZS} {P : Nat → Prop} (h : CIv σ rr dn ru n K N W D kp r2 d2 u2 n2 K2 N2 W2 D2 TX tp sh) (hru : ru < TX.length) (h6 : TX.length ≤ 6) (hF : Fr P σ σ1) (hP : ∀ i, P i → 22 ≤ i ∧ i ≤ 27) (sj' : SeJ σ1) : CIv σ1 rr dn ru n K N W D kp r2 d2 u2 n2 K2 N2 W2 D2 TX tp sh ∧ FC σ σ1 :=
  h.sj hru h6 hF (fun i q => Or.inr (hP i q)) (h.2.2.2.1.fr hF (fun i h1 h2 q => by have := hP i q; omega)) sj'
/-- search scratch and the rule's scratch have changed -/
theorem CIv.sm {rr dn ru n : Nat} {K N : List Nat} {W : List Int32} {D : List Nat} {kp : Bool} {r2 d2 u2 n2 : Nat} {K2 N2 : List Nat} {W2 : List Int32} {D2 : List Nat} {TX : List (List Nat)} {tp : List Nat} {sh : Nat → SH} {σ σ1 : ZS} {P : Nat → Prop} (h : CIv σ rr dn ru n K N W D kp r2 d2 u2 n2 K2 N2 W2 D2 TX tp sh) (hru : ru < TX.length) (h6 : TX.length ≤ 6) (hF : Fr P σ σ1) (hP : ∀ i, P i → (11 ≤ i ∧ i ≤ 15) ∨ i = 18 ∨ (22 ≤ i ∧ i ≤ 27) ∨ i = rIx ru + 2) (p11' : PaJ σ1 11) (sj' : SeJ σ1) {S : List Nat} {lf jf : Nat} (hp : pText (TX.getD ru []) = .inr (S, lf, jf)) (hM : MaW σ1 ru (rIx ru) (rIx ru + 1) (rIx ru + 2) S lf jf) : CIv σ1 rr dn ru n K N W D kp r2 d2 u2 n2 K2 N2 W2 D2 TX tp sh ∧ FC σ σ1 := by
  have cR := rIx_c ru
  exact h.sc hru h6 hF (fun i q => by have := hP i q; omega) (h.2.1.fr hF (fun i h1 h2 q => by have := hP i q; omega)) p11' sj' hp hM (h.2.2.2.2.2.2.2.1.fr hF (fun i h1 h2 q => by have := hP i q; omega))
/-- a sheet has changed -/
theorem CIv.cs {rr dn ru n : Nat} {K N : List Nat} {W : List Int32} {D : List Nat} {kp : Bool} {r2 d2 u2 n2 : Nat} {K2 N2 : List Nat} {W2 : List Int32} {D2 : List Nat} {TX : List (List Nat)} {tp : List Nat} {sh : Nat → SH} {σ σ1 : ZS} {i : Nat} (h : CIv σ rr dn ru n K N W D kp r2 d2 u2 n2 K2 N2 W2 D2 TX tp sh) (hru : ru < TX.length) (h6 : TX.length ≤ 6) (hi : i < 4) {sh' : Nat → SH} (cs' : CSH σ1 sh') (hF : Fr (fun j => j = 32 + 2 * i ∨ j = 33 + 2 * i) σ σ1) : CIv σ1 rr dn ru n K N W D kp r2 d2 u2 n2 K2 N2 W2 D2 TX tp sh' ∧ FC σ σ1 := by
  obtain ⟨k0, p1, p6, p11, sj, tx, rd, cs, ln⟩ := id h
  obtain ⟨S, lf, jf, hpt, hM⟩ := tx.ma hru h6
  have cR := rIx_c ru
  exact h.sc hru h6 hF (fun i q => by omega) (p1.fr hF (fun i h1 h2 => by omega)) (p11.fr hF (fun i h1 h2 => by omega)) (sj.fr hF (fun i hi => by omega)) hpt (hM.fr hF (fun i hi => by omega)) cs'
theorem RIv.pt {rr dn ru n : Nat} {K N : List Nat} {W : List Int32} {D : List Nat} {kp : Bool} {r2 d2 u2 n2 : Nat} {K2 N2 : List Nat} {W2 : List Int32} {D2 : List Nat} {TX : List (List Nat)} {tp : List Nat} {sh : Nat → SH} {a a' : Nat → Int32} {b b' : Nat → List Int32} (h : RIv a b rr dn ru n K N W D kp r2 d2 u2 n2 K2 N2 W2 D2 TX tp sh) {rr' dn' ru' n' : Nat} {K' N' : List Nat} {W' : List Int32} {D' : List Nat} (hC : RC a' b' rr' n' K' N' W' D' (-1)) (e8 : a' 8 = nI dn') (e4 : a' 4 = nI ru') (hA : ∀ j, j = 3 ∨ j = 6 ∨ (44 ≤ j ∧ j ≤ 47) → a' j = a j) (hB : ∀ j, j = 0 ∨ j = 1 ∨ j = 2 ∨ (10 ≤ j ∧ j ≤ 16) → b' j = b j) : RIv a' b' rr' dn' ru' n' K' N' W' D' kp r2 d2 u2 n2 K2 N2 W2 D2 TX tp sh := by
  obtain ⟨iC, i8, i4, ⟨x1, x2⟩, ⟨t1, t2⟩, iS, ikt, ikf⟩ := h
  refine ⟨hC, e8, e4, ⟨(hA 3 (by omega)).trans x1, fun i hi => ?_⟩, ⟨(hA 6 (by omega)).trans t1, fun j hj => ?_⟩, iS.fr (hB 13 (by omega)) (hB 14 (by omega)) (hB 15 (by omega)) (hB 16 (by omega)), fun hk => ?_, fun hk => (hA 44 (by omega)).trans (ikf hk)⟩
  · rw [hB 0 (by omega), hB 1 (by omega)]; exact x2 i hi
  · rw [hB 2 (by omega)]; exact t2 j hj
  · obtain ⟨y1, y2, y3, y4, y5, y6, y7⟩ := ikt hk
    exact ⟨(hA 44 (by omega)).trans y1, (hA 45 (by omega)).trans y2, (hA 46 (by omega)).trans y3, (hA 47 (by omega)).trans y4, (hB 10 (by omega)).trans y5, (hB 11 (by omega)).trans y6, (hB 12 (by omega)).trans y7⟩
theorem RIv.sh {rr dn ru n : Nat} {K N : List Nat} {W : List Int32} {D : List Nat} {kp : Bool} {r2 d2 u2 n2 : Nat} {K2 N2 : List Nat} {W2 : List Int32} {D2 : List Nat} {TX : List (List Nat)} {tp : List Nat} {sh : Nat → SH} {a a' : Nat → Int32} {b b' : Nat → List Int32} (h : RIv a b rr dn ru n K N W D kp r2 d2 u2 n2 K2 N2 W2 D2 TX tp sh) {sh' : Nat → SH} (hA : FrR a a') (hB : ∀ j, j ≤ 6 ∨ (10 ≤ j ∧ j ≤ 12) → b' j = b j) (hS : RSH b' sh') : RIv a' b' rr dn ru n K N W D kp r2 d2 u2 n2 K2 N2 W2 D2 TX tp sh' := by
  obtain ⟨iC, i8, i4, ⟨x1, x2⟩, ⟨t1, t2⟩, iS, ikt, ikf⟩ := h
  obtain ⟨c7, hrr, c13, hn7, c14, cK, cN, cW, cD, r⟩ := iC
  refine ⟨⟨(hA 7 (by omega)).trans c7, hrr, (hA 13 (by omega)).trans c13, hn7, (hA 14 (by omega)).trans c14, fun i hi => ?_, ?_, ?_, ?_, r⟩, (hA 8 (by omega)).trans i8, (hA 4 (by omega)).trans i4, ⟨(hA 3 (by omega)).trans x1, fun i hi => ?_⟩, ⟨(hA 6 (by omega)).trans t1, fun j hj => ?_⟩, hS, fun hk => ?_, fun hk => (hA 44 (by omega)).trans (ikf hk)⟩
  · rw [hB 3 (by omega)]; exact cK i hi
  · rw [hB 4 (by omega)]; exact cN
  · rw [hB 5 (by omega)]; exact cW
  · rw [hB 6 (by omega)]; exact cD
  · rw [hB 0 (by omega), hB 1 (by omega)]; exact x2 i hi
  · rw [hB 2 (by omega)]; exact t2 j hj
  · obtain ⟨y1, y2, y3, y4, y5, y6, y7⟩ := ikt hk
    exact ⟨(hA 44 (by omega)).trans y1, (hA 45 (by omega)).trans y2, (hA 46 (by omega)).trans y3, (hA 47 (by omega)).trans y4, (hB 10 (by omega)).trans y5, (hB 11 (by omega)).trans y6, (hB 12 (by omega)).trans y7⟩
theorem Dz.mono {n n' : Nat} {D : List Nat} (h : Dz n D) (hn : n ≤ n') : Dz n' D := fun i j hi hj hij => h i j hi hj (by omega)
theorem gsP_keep (P : PT4) (x y : Int32) : P.1 ≤ (gsP P x y).1 ∧ ∀ i, i < P.1 → (gsP P x y).2.1.getD i 0 = P.2.1.getD i 0 := by
  rw [gsP]
  split
  · exact ⟨Nat.le_succ _, fun i hi => by show (P.2.1.set P.1 _).getD i 0 = _; rw [getD_set, if_neg (by omega)]⟩
  · exact ⟨Nat.le_refl _, fun i hi => rfl⟩
theorem gsF_keep {row : List Int32} {sz u : Nat} : ∀ (q k c : Nat) (P : PT4), P.1 ≤ (gsF row sz u q k c P).2.1 ∧ ∀ i, i < P.1 → (gsF row sz u q k c P).2.2.1.getD i 0 = P.2.1.getD i 0
  | 0, k, c, P => ⟨Nat.le_refl _, fun i hi => rfl⟩
  | q + 1, k, c, P => by
    rw [gsF]
    split
    · exact ⟨Nat.le_refl _, fun i hi => rfl⟩
    · obtain ⟨h1, h2⟩ := gsP_keep P (row.getD (u + 2 * k) 0) (row.getD (u + 2 * k + 1) 0)
      obtain ⟨h3, h4⟩ := gsF_keep (row := row) (sz := sz) (u := u) q (k + 1) (c + (if gsB P.1 (row.getD (u + 2 * k) 0) (row.getD (u + 2 * k + 1) 0) = true then 1 else 0)) (gsP P (row.getD (u + 2 * k) 0) (row.getD (u + 2 * k + 1) 0))
      exact ⟨Nat.le_trans h1 h3, fun i hi => (h4 i (Nat.lt_of_lt_of_le hi h1)).trans (h2 i hi)⟩
theorem SHG_up {sh : Nat → SH} (h : SHG sh) {i : Nat} {so : Int32} {sz : Nat} {row : List Int32} (h1 : so = -1 ∨ so = nI 0 ∨ so = nI 1 ∨ so = nI 2) (h2 : sz ≤ 40) (h3 : row.length = 40) : SHG (up sh i (so, sz, row)) := by
  intro j hj
  by_cases e : j = i
  · subst e
    rw [up_eq]
    exact ⟨h1, h2, h3⟩
  · rw [up_ne _ _ e]
    exact h j hj
theorem sn_getD {tp : List Nat} {v j : Nat} (h : j < tp.length) : (tp ++ [v]).getD j 0 = tp.getD j 0 := by
  rw [List.getD_eq_getElem?_getD, List.getD_eq_getElem?_getD, List.getElem?_append_left h]
theorem sn_last {tp : List Nat} {v : Nat} : (tp ++ [v]).getD tp.length 0 = v := by
  rw [List.getD_eq_getElem?_getD, List.getElem?_append_right (Nat.le_refl _), Nat.sub_self]
  rfl
theorem sn_out {tp : List Nat} {v j : Nat} (h : tp.length < j) : (tp ++ [v]).getD j 0 = 0 := by
  rw [List.getD_eq_getElem?_getD, List.getElem?_eq_none (by simp; omega)]
  rfl
theorem m1_of {x : Int32} (h : x.toInt = -1) : x = -1 := Int32.toInt_inj.mp (by rw [h]; decide)
set_option maxHeartbeats 4000000 in
theorem s_set {σ : ZS} (h : INV σ) (w x v : Int32) : Spq M_X7_set M_X8_set 0 0 [.int w, .int x, .int v] σ := by
  obtain ⟨rr, dn, ru, n, K, N, W, D, kp, r2, d2, u2, n2, K2, N2, W2, D2, TX, tp, sh, a, tw, b, hC, hP, hR, hI⟩ := h
  obtain ⟨k0, p1, p6, p11, sj, tx, rd, cs, ln⟩ := id hC
  obtain ⟨hrr, hdn, hru, hg, hz, hr2, hd2, hu2, hg2, hz2, hkp, hTX, htp, hsh⟩ := id hP
  obtain ⟨iC, i8, i4, iX, iT, iS, ikt, ikf⟩ := id hI
  obtain ⟨c7, hrr9, c13, hn7, c14, cK, cN, cW, cD, hN7, hW7, hD49, hK5, hN9, hD999⟩ := id iC
  have hT1 := hTX.1
  have hT6 := hTX.2.1
  obtain ⟨S, lf, jf, hp, hM⟩ := tx.ma hru hT6
  have bw := fun (x : Unit) => hI.bw hP hp
  have cR := rIx_c ru
  have tI := fun (k : Nat) (hk : k < 2147483648) => nI_toInt hk
  by_cases hw : 0 ≤ w.toInt ∧ w.toInt ≤ ((3 : Nat) : Int)
  · obtain ⟨w, hw3, rfl⟩ := in_n hw
    rcases (show w = 0 ∨ w = 1 ∨ w = 2 ∨ w = 3 by omega) with rfl | rfl | rfl | rfl
    · by_cases hv : 0 ≤ v.toInt ∧ v.toInt ≤ ((1 : Nat) : Int)
      · obtain ⟨k, hk, rfl⟩ := in_n hv
        exact Spq.of (show PIv k dn ru n K N W D kp r2 d2 u2 n2 K2 N2 W2 D2 TX tp sh from ⟨hk, hdn, hru, hg, hz, hr2, hd2, hu2, hg2, hz2, hkp, hTX, htp, hsh⟩) hR ((c_set0 k0 p1 (x := x) hk).post (fun r σ1 q => ⟨q.1, hC.p1 hru hT6 q.2.1 q.2.2⟩)) (by omega) (fun σ1 R1 => (r_set0 R1 iC i8 (x := x) hv).post (fun r σ2 q => ⟨q.1, _, _, _, q.2, ⟨⟨rfl, hk, c13, hn7, c14, cK, cN, cW, cD, hN7, hW7, hD49, hK5, hN9, hD999⟩, i8, i4, iX, iT, iS, ikt, ikf⟩⟩)) (by omega)
      · exact Spq.of hP hR (Cn.c0 hC (c_set0_b k0 p1 (x := x) hv)) (by omega) (fun σ1 R1 => Cn.r0 hI R1 (r_set0_b R1 iC (x := x) hv)) (by omega)
    · by_cases hv : 0 ≤ v.toInt ∧ v.toInt ≤ ((999 : Nat) : Int)
      · obtain ⟨k, hk, rfl⟩ := in_n hv
        exact Spq.of (show PIv rr k ru n K N W D kp r2 d2 u2 n2 K2 N2 W2 D2 TX tp sh from ⟨hrr, hk, hru, hg, hz, hr2, hd2, hu2, hg2, hz2, hkp, hTX, htp, hsh⟩) hR ((c_set1 k0 p1 (x := x) hk).post (fun r σ1 q => ⟨q.1, hC.p1 hru hT6 q.2.1 q.2.2⟩)) (by omega) (fun σ1 R1 => (r_set1 R1 iC i8 (x := x) hv).post (fun r σ2 q => ⟨q.1, _, _, _, q.2, ⟨iC, rfl, i4, iX, iT, iS, ikt, ikf⟩⟩)) (by omega)
      · exact Spq.of hP hR (Cn.c0 hC (c_set1_b k0 p1 (x := x) hv)) (by omega) (fun σ1 R1 => Cn.r0 hI R1 (r_set1_b R1 iC (x := x) hv)) (by omega)
    · by_cases hb : (0 ≤ x.toInt ∧ x.toInt < (n : Int)) ∧ (0 ≤ v.toInt ∧ v.toInt ≤ ((9 : Nat) : Int))
      · obtain ⟨o, ho, rfl⟩ := in_l hb.1
        have hv := hb.2
        obtain ⟨k, hk, rfl⟩ := in_n hb.2
        exact Spq.of (show PIv rr dn ru n K (N.set o k) W D kp r2 d2 u2 n2 K2 N2 W2 D2 TX tp sh from ⟨hrr, hdn, hru, hg, hz, hr2, hd2, hu2, hg2, hz2, hkp, hTX, htp, hsh⟩) hR ((c_set2 k0 p1 ho hk).post (fun r σ1 q => ⟨q.1, hC.p1 hru hT6 q.2.1 q.2.2⟩)) (by omega) (fun σ1 R1 => (r_set2 R1 iC i8 ho hv).post (fun r σ2 q => ⟨q.1, _, _, _, q.2, ⟨⟨c7, hrr9, c13, hn7, c14, cK, (by show (b 4).set o (nI k) = _; rw [cN, gm_set]), cW, cD, (by rw [List.length_set]; exact hN7), hW7, hD49, hK5, (getD_set_le hN9 hk), hD999⟩, i8, i4, iX, iT, iS, ikt, ikf⟩⟩)) (by omega)
      · exact Spq.of hP hR (Cn.c0 hC (c_set2_b k0 p1 (by omega))) (by omega) (fun σ1 R1 => Cn.r0 hI R1 (r_set2_b R1 iC (by omega))) (by omega)
    · by_cases hb : (0 ≤ x.toInt ∧ x.toInt < (n : Int)) ∧ (v.toInt = -1 ∨ ((0 ≤ v.toInt ∧ v.toInt < (n : Int)) ∧ ¬ v.toInt = x.toInt))
      · obtain ⟨o, ho, rfl⟩ := in_l hb.1
        have ex := tI o (by omega)
        have hv := hb.2
        rw [ex] at hv
        by_cases hm : v.toInt = -1
        · obtain rfl := m1_of hm
          exact Spq.of (show PIv rr dn ru n K N (W.set o (-1)) D kp r2 d2 u2 n2 K2 N2 W2 D2 TX tp sh from ⟨hrr, hdn, hru, hg, hz, hr2, hd2, hu2, hg2, hz2, hkp, hTX, htp, hsh⟩) hR ((c_set3n k0 p1 ho).post (fun r σ1 q => ⟨q.1, hC.p1 hru hT6 q.2.1 q.2.2⟩)) (by omega) (fun σ1 R1 => (r_set3 R1 iC i8 ho hv).post (fun r σ2 q => ⟨q.1, _, _, _, q.2, ⟨⟨c7, hrr9, c13, hn7, c14, cK, cN, (by show (b 5).set o (-1) = _; rw [cW]), cD, hN7, (by rw [List.length_set]; exact hW7), hD49, hK5, hN9, hD999⟩, i8, i4, iX, iT, iS, ikt, ikf⟩⟩)) (by omega)
        · obtain ⟨k, hk, rfl⟩ := in_l (x := v) (m := n) (by omega)
          have ek := tI k (by omega)
          exact Spq.of (show PIv rr dn ru n K N (W.set o (nI k)) D kp r2 d2 u2 n2 K2 N2 W2 D2 TX tp sh from ⟨hrr, hdn, hru, hg, hz, hr2, hd2, hu2, hg2, hz2, hkp, hTX, htp, hsh⟩) hR ((c_set3 k0 p1 ho hk (by omega)).post (fun r σ1 q => ⟨q.1, hC.p1 hru hT6 q.2.1 q.2.2⟩)) (by omega) (fun σ1 R1 => (r_set3 R1 iC i8 ho hv).post (fun r σ2 q => ⟨q.1, _, _, _, q.2, ⟨⟨c7, hrr9, c13, hn7, c14, cK, cN, (by show (b 5).set o (nI k) = _; rw [cW]), cD, hN7, (by rw [List.length_set]; exact hW7), hD49, hK5, hN9, hD999⟩, i8, i4, iX, iT, iS, ikt, ikf⟩⟩)) (by omega)
      · exact Spq.of hP hR (Cn.c0 hC (c_set3_b k0 p1 (by omega))) (by omega) (fun σ1 R1 => Cn.r0 hI R1 (r_set3_b R1 iC (by omega))) (by omega)
  · exact Spq.of hP hR (Cn.c0 hC (c_set_b k0 p1 hw)) (by omega) (fun σ1 R1 => Cn.r0 hI R1 (r_set_b R1 iC hw)) (by omega)
set_option maxHeartbeats 4000000 in
theorem s_guest {σ : ZS} (h : INV σ) (x y : Int32) : Spq M_X7_guest M_X8_guest 0 0 [.int x, .int y] σ := by
  obtain ⟨rr, dn, ru, n, K, N, W, D, kp, r2, d2, u2, n2, K2, N2, W2, D2, TX, tp, sh, a, tw, b, hC, hP, hR, hI⟩ := h
  obtain ⟨k0, p1, p6, p11, sj, tx, rd, cs, ln⟩ := id hC
  obtain ⟨hrr, hdn, hru, hg, hz, hr2, hd2, hu2, hg2, hz2, hkp, hTX, htp, hsh⟩ := id hP
  obtain ⟨iC, i8, i4, iX, iT, iS, ikt, ikf⟩ := id hI
  obtain ⟨c7, hrr9, c13, hn7, c14, cK, cN, cW, cD, hN7, hW7, hD49, hK5, hN9, hD999⟩ := id iC
  have hT1 := hTX.1
  have hT6 := hTX.2.1
  obtain ⟨S, lf, jf, hp, hM⟩ := tx.ma hru hT6
  have bw := fun (x : Unit) => hI.bw hP hp
  have cR := rIx_c ru
  have tI := fun (k : Nat) (hk : k < 2147483648) => nI_toInt hk
  have hk9 := gsP_keep (n, K, N, W) x y
  exact Spq.of (show PIv rr dn ru (gsP (n, K, N, W) x y).1 (gsP (n, K, N, W) x y).2.1 (gsP (n, K, N, W) x y).2.2.1 (gsP (n, K, N, W) x y).2.2.2 D kp r2 d2 u2 n2 K2 N2 W2 D2 TX tp sh from ⟨hrr, hdn, hru, hg, hz.mono hk9.1, hr2, hd2, hu2, hg2, hz2, fun hk => ⟨Nat.le_trans (hkp hk).1 hk9.1, fun i hi => (hk9.2 i (Nat.lt_of_lt_of_le hi (hkp hk).1)).trans ((hkp hk).2 i hi)⟩, hTX, htp, hsh⟩) hR ((c_guestG (P := (n, K, N, W)) k0 ⟨p1, hz⟩ (x := x) (y := y)).post (fun r σ1 q => ⟨q.1, hC.p1 hru hT6 q.2.1.1 q.2.2⟩)) (by omega) (fun σ1 R1 => (r_guestG (P := (n, K, N, W)) R1 ⟨iC, p1.2.2.2.2.2.2.1, hz⟩ (x := x) (y := y)).post (fun r σ2 q => by obtain ⟨q1, a', b', q2, q3, q4, q5⟩ := q; exact ⟨q1, a', tw, b', q2, hI.pt q3.1 ((q4 8 (by omega)).trans i8) ((q4 4 (by omega)).trans i4) (fun j hj => q4 j (by omega)) (fun j hj => q5 j (by omega) (by omega) (by omega))⟩)) (by omega)
set_option maxHeartbeats 4000000 in
theorem s_owe {σ : ZS} (h : INV σ) (x y v : Int32) : Spq M_X7_owe M_X8_owe 0 0 [.int x, .int y, .int v] σ := by
  obtain ⟨rr, dn, ru, n, K, N, W, D, kp, r2, d2, u2, n2, K2, N2, W2, D2, TX, tp, sh, a, tw, b, hC, hP, hR, hI⟩ := h
  obtain ⟨k0, p1, p6, p11, sj, tx, rd, cs, ln⟩ := id hC
  obtain ⟨hrr, hdn, hru, hg, hz, hr2, hd2, hu2, hg2, hz2, hkp, hTX, htp, hsh⟩ := id hP
  obtain ⟨iC, i8, i4, iX, iT, iS, ikt, ikf⟩ := id hI
  obtain ⟨c7, hrr9, c13, hn7, c14, cK, cN, cW, cD, hN7, hW7, hD49, hK5, hN9, hD999⟩ := id iC
  have hT1 := hTX.1
  have hT6 := hTX.2.1
  obtain ⟨S, lf, jf, hp, hM⟩ := tx.ma hru hT6
  have bw := fun (x : Unit) => hI.bw hP hp
  have cR := rIx_c ru
  have tI := fun (k : Nat) (hk : k < 2147483648) => nI_toInt hk
  by_cases hb : ((0 ≤ x.toInt ∧ x.toInt < ((n : Nat) : Int)) ∧ (0 ≤ y.toInt ∧ y.toInt < ((n : Nat) : Int)) ∧ ¬ x.toInt = y.toInt) ∧ (0 ≤ v.toInt ∧ v.toInt ≤ ((999 : Nat) : Int))
  · obtain ⟨⟨h1, h2, h3⟩, h4⟩ := hb
    obtain ⟨x, hx, rfl⟩ := in_l h1
    obtain ⟨y, hy, rfl⟩ := in_l h2
    obtain ⟨v, hv, rfl⟩ := in_n h4
    have ex := tI x (by omega)
    have ey := tI y (by omega)
    exact Spq.of (show PIv rr dn ru n K N W (D.set (x * 7 + y) v) kp r2 d2 u2 n2 K2 N2 W2 D2 TX tp sh from ⟨hrr, hdn, hru, Dg_set hg (by omega) (by omega) (by omega), fun i j hi hj hij => by rw [getD_set, if_neg (by omega)]; exact hz i j hi hj hij, hr2, hd2, hu2, hg2, hz2, hkp, hTX, htp, hsh⟩) hR ((c_owe k0 p1 hx hy (by omega) hv).post (fun r σ1 q => ⟨q.1, hC.p1 hru hT6 q.2.1 q.2.2⟩)) (by omega) (fun σ1 R1 => (r_owe R1 iC hx hy (by omega) hv).post (fun r σ2 q => by obtain ⟨q1, b', q2, q3, q4⟩ := q; exact ⟨q1, a, tw, b', q2, hI.pt (iC.setD q3 q4 ⟨by rw [List.length_set]; exact hD49, getD_set_le hD999 hv⟩) i8 i4 (fun j hj => rfl) (fun j hj => q3 j (by omega))⟩)) (by omega)
  · exact Spq.of hP hR (Cn.c0 hC (c_owe_b k0 p1 (by omega))) (by omega) (fun σ1 R1 => Cn.r0 hI R1 (r_owe_b R1 iC (by omega))) (by omega)
set_option maxHeartbeats 4000000 in
theorem s_told {σ : ZS} (h : INV σ) (x y : Int32) : Spq M_X7_told M_X8_told 0 0 [.int x, .int y] σ := by
  obtain ⟨rr, dn, ru, n, K, N, W, D, kp, r2, d2, u2, n2, K2, N2, W2, D2, TX, tp, sh, a, tw, b, hC, hP, hR, hI⟩ := h
  obtain ⟨k0, p1, p6, p11, sj, tx, rd, cs, ln⟩ := id hC
  obtain ⟨hrr, hdn, hru, hg, hz, hr2, hd2, hu2, hg2, hz2, hkp, hTX, htp, hsh⟩ := id hP
  obtain ⟨iC, i8, i4, iX, iT, iS, ikt, ikf⟩ := id hI
  obtain ⟨c7, hrr9, c13, hn7, c14, cK, cN, cW, cD, hN7, hW7, hD49, hK5, hN9, hD999⟩ := id iC
  have hT1 := hTX.1
  have hT6 := hTX.2.1
  obtain ⟨S, lf, jf, hp, hM⟩ := tx.ma hru hT6
  have bw := fun (x : Unit) => hI.bw hP hp
  have cR := rIx_c ru
  have tI := fun (k : Nat) (hk : k < 2147483648) => nI_toInt hk
  by_cases hy : 0 ≤ y.toInt ∧ y.toInt ≤ ((7 : Nat) : Int)
  · obtain ⟨w, hw, rfl⟩ := in_n hy
    by_cases w2 : 2 ≤ w
    · by_cases hx : 0 ≤ x.toInt ∧ x.toInt < (n : Int)
      · obtain ⟨o, ho, rfl⟩ := in_l hx
        rcases (show w = 2 ∨ w = 3 ∨ w = 4 ∨ w = 5 ∨ w = 6 ∨ w = 7 by omega) with rfl | rfl | rfl | rfl | rfl | rfl
        · exact Spq.of hP hR (Cn.c0 hC (c_told2 k0 p1 ho)) (by omega) (fun σ1 R1 => Cn.r0 hI R1 (r_told2 R1 iC i8 ho)) (by omega)
        · exact Spq.of hP hR (Cn.c0 hC (c_told3 k0 p1 ho)) (by omega) (fun σ1 R1 => Cn.r0 hI R1 (r_told3 R1 iC i8 ho)) (by omega)
        · exact Spq.of hP hR (Cn.c0 hC (c_told4 k0 p1 ho)) (by omega) (fun σ1 R1 => Cn.r0 hI R1 (r_told4 R1 iC i8 ho)) (by omega)
        · exact Spq.of hP hR (Cn.c0 hC (c_told5 k0 p1 ho)) (by omega) (fun σ1 R1 => Cn.r0 hI R1 (r_told5 R1 iC i8 ho)) (by omega)
        · exact Spq.of hP hR (Cn.c0 hC (c_told6 k0 p1 ho)) (by omega) (fun σ1 R1 => Cn.r0 hI R1 (r_told6 R1 iC i8 ho)) (by omega)
        · exact Spq.of hP hR (Cn.c0 hC (c_told7 k0 p1 ho)) (by omega) (fun σ1 R1 => Cn.r0 hI R1 (r_told7 R1 iC i8 ho)) (by omega)
      · have ew := tI w (by omega)
        exact Spq.of hP hR (Cn.c0 hC (c_told_b k0 p1 (Or.inr ⟨by omega, hx⟩))) (by omega) (fun σ1 R1 => Cn.r0 hI R1 (r_told_b R1 iC i8 (Or.inr ⟨by omega, hx⟩))) (by omega)
    · rcases (show w = 0 ∨ w = 1 by omega) with rfl | rfl
      · exact Spq.of hP hR (Cn.c0 hC (c_told0 k0 p1 (x := x))) (by omega) (fun σ1 R1 => Cn.r0 hI R1 (r_told0 R1 iC i8 (x := x))) (by omega)
      · exact Spq.of hP hR (Cn.c0 hC (c_told1 k0 p1 (x := x))) (by omega) (fun σ1 R1 => Cn.r0 hI R1 (r_told1 R1 iC i8 (x := x))) (by omega)
  · by_cases hb : (10 ≤ y.toInt ∧ y.toInt ≤ 16 ∧ y.toInt - 10 < (n : Int)) ∧ (0 ≤ x.toInt ∧ x.toInt < (n : Int))
    · obtain ⟨o, ho, rfl⟩ := in_l hb.2
      have hy2 := hb.1
      obtain ⟨w, hw, rfl⟩ := in_n (x := y) (m := 16) (by omega)
      have ew := tI w (by omega)
      exact Spq.of hP hR (Cn.c0 hC (c_toldN k0 p1 ho (w := w) (by omega) (by omega))) (by omega) (fun σ1 R1 => Cn.r0 hI R1 (r_toldN R1 iC i8 ho (w := w) (by omega) (by omega))) (by omega)
    · exact Spq.of hP hR (Cn.c0 hC (c_told_b k0 p1 (by omega))) (by omega) (fun σ1 R1 => Cn.r0 hI R1 (r_told_b R1 iC i8 (by omega))) (by omega)
set_option maxHeartbeats 4000000 in
theorem s_force {σ : ZS} (h : INV σ) (v : Int32) : Spq M_X7_force M_X8_force 0 0 [.int v] σ := by
  obtain ⟨rr, dn, ru, n, K, N, W, D, kp, r2, d2, u2, n2, K2, N2, W2, D2, TX, tp, sh, a, tw, b, hC, hP, hR, hI⟩ := h
  obtain ⟨k0, p1, p6, p11, sj, tx, rd, cs, ln⟩ := id hC
  obtain ⟨hrr, hdn, hru, hg, hz, hr2, hd2, hu2, hg2, hz2, hkp, hTX, htp, hsh⟩ := id hP
  obtain ⟨iC, i8, i4, iX, iT, iS, ikt, ikf⟩ := id hI
  obtain ⟨c7, hrr9, c13, hn7, c14, cK, cN, cW, cD, hN7, hW7, hD49, hK5, hN9, hD999⟩ := id iC
  have hT1 := hTX.1
  have hT6 := hTX.2.1
  obtain ⟨S, lf, jf, hp, hM⟩ := tx.ma hru hT6
  have bw := fun (x : Unit) => hI.bw hP hp
  have cR := rIx_c ru
  have tI := fun (k : Nat) (hk : k < 2147483648) => nI_toInt hk
  by_cases hv : 0 ≤ v.toInt ∧ v.toInt < ((TX.length : Nat) : Int)
  · obtain ⟨k, hk, rfl⟩ := in_l hv
    exact Spq.of (show PIv rr dn k n K N W D kp r2 d2 u2 n2 K2 N2 W2 D2 TX tp sh from ⟨hrr, hdn, hk, hg, hz, hr2, hd2, hu2, hg2, hz2, hkp, hTX, htp, hsh⟩) hR ((c_force k0 p1 ⟨hT1, hT6⟩ hk).post (fun r σ1 q => ⟨q.1, hC.p1 hru hT6 q.2.1 q.2.2⟩)) (by omega) (fun σ1 R1 => (r_force R1 iX.1 i4 hT6 hk).post (fun r σ2 q => ⟨q.1, _, _, _, q.2, ⟨iC, i8, rfl, iX, iT, iS, ikt, ikf⟩⟩)) (by omega)
  · exact Spq.of hP hR (Cn.c0 hC (c_force_b k0 p1 ⟨hT1, hT6⟩ hv)) (by omega) (fun σ1 R1 => Cn.r0 hI R1 (r_force_b R1 iX.1 i4 hT6 hv)) (by omega)
set_option maxHeartbeats 4000000 in
theorem s_count {σ : ZS} (h : INV σ) (w : Int32) : Spq M_X7_count M_X8_count 0 0 [.int w] σ := by
  obtain ⟨rr, dn, ru, n, K, N, W, D, kp, r2, d2, u2, n2, K2, N2, W2, D2, TX, tp, sh, a, tw, b, hC, hP, hR, hI⟩ := h
  obtain ⟨k0, p1, p6, p11, sj, tx, rd, cs, ln⟩ := id hC
  obtain ⟨hrr, hdn, hru, hg, hz, hr2, hd2, hu2, hg2, hz2, hkp, hTX, htp, hsh⟩ := id hP
  obtain ⟨iC, i8, i4, iX, iT, iS, ikt, ikf⟩ := id hI
  obtain ⟨c7, hrr9, c13, hn7, c14, cK, cN, cW, cD, hN7, hW7, hD49, hK5, hN9, hD999⟩ := id iC
  have hT1 := hTX.1
  have hT6 := hTX.2.1
  obtain ⟨S, lf, jf, hp, hM⟩ := tx.ma hru hT6
  have bw := fun (x : Unit) => hI.bw hP hp
  have cR := rIx_c ru
  have tI := fun (k : Nat) (hk : k < 2147483648) => nI_toInt hk
  obtain ⟨ap, tk, tq, tv, fa, sc, lf9, jf9, Tp, St, hTp, hRd⟩ := id rd
  by_cases hw : 0 ≤ w.toInt ∧ w.toInt ≤ ((6 : Nat) : Int)
  · obtain ⟨k, hk, rfl⟩ := in_n hw
    have ek := tI k (by omega)
    exact Spq.of hP hR (Cn.c0 hC (c_countN k0 p1 hRd hk)) (by omega) (fun σ1 R1 => Cn.r0 hI R1 (by have z := r_count R1 iC i8 iX.1 iT.1 i4 (w := nI k); rw [ek] at z; exact z)) (by omega)
  · exact Spq.of hP hR (Cn.c0 hC (c_count_b k0 p1 hRd hw)) (by omega) (fun σ1 R1 => Cn.r0 hI R1 (r_count R1 iC i8 iX.1 iT.1 i4 (w := w))) (by omega)
theorem CIv.rd {rr dn ru n : Nat} {K N : List Nat} {W : List Int32} {D : List Nat} {kp : Bool} {r2 d2 u2 n2 : Nat} {K2 N2 : List Nat} {W2 : List Int32} {D2 : List Nat} {TX : List (List Nat)} {tp : List Nat} {sh : Nat → SH} {σ σ1 : ZS} (h : CIv σ rr dn ru n K N W D kp r2 d2 u2 n2 K2 N2 W2 D2 TX tp sh) (hru : ru < TX.length) (h6 : TX.length ≤ 6) {tp' : List Nat} (rd' : RdJ σ1 tp') {P : Nat → Prop} (hF : Fr P σ σ1) (hP : ∀ i, P i → 28 ≤ i ∧ i ≤ 30) : CIv σ1 rr dn ru n K N W D kp r2 d2 u2 n2 K2 N2 W2 D2 TX tp' sh ∧ FC σ σ1 := by
  obtain ⟨k0, p1, p6, p11, sj, tx, rd, cs, ln⟩ := h
  have cR := rIx_c ru
  have tx' := tx.fr hF (fun i hi q => by have := hP i q; omega)
  have cs' := cs.fr hF (fun i h1 h2 q => by have := hP i q; omega)
  exact ⟨⟨hF.at (fun q => by have := hP _ q; omega) k0, p1.fr hF (fun i h1 h2 q => by have := hP _ q; omega), p6.fr hF (fun i h1 h2 q => by have := hP _ q; omega), p11.fr hF (fun i h1 h2 q => by have := hP _ q; omega), sj.fr hF (fun i hi q => by have := hP _ q; omega), tx', rd', cs', Ln.cl hF ln tx' cs' hru h6 (fun i q => by have := hP i q; omega)⟩, hF.fc (fun i hi q => by have := hP i q; omega)⟩
set_option maxHeartbeats 4000000 in
theorem s_feed {σ : ZS} (h : INV σ) (v : Int32) : Spq M_X7_feed M_X8_feed 0 0 [.int v] σ := by
  obtain ⟨rr, dn, ru, n, K, N, W, D, kp, r2, d2, u2, n2, K2, N2, W2, D2, TX, tp, sh, a, tw, b, hC, hP, hR, hI⟩ := h
  obtain ⟨k0, p1, p6, p11, sj, tx, rd, cs, ln⟩ := id hC
  obtain ⟨hrr, hdn, hru, hg, hz, hr2, hd2, hu2, hg2, hz2, hkp, hTX, htp, hsh⟩ := id hP
  obtain ⟨iC, i8, i4, iX, iT, iS, ikt, ikf⟩ := id hI
  obtain ⟨c7, hrr9, c13, hn7, c14, cK, cN, cW, cD, hN7, hW7, hD49, hK5, hN9, hD999⟩ := id iC
  have hT1 := hTX.1
  have hT6 := hTX.2.1
  obtain ⟨S, lf, jf, hp, hM⟩ := tx.ma hru hT6
  have bw := fun (x : Unit) => hI.bw hP hp
  have cR := rIx_c ru
  have tI := fun (k : Nat) (hk : k < 2147483648) => nI_toInt hk
  obtain ⟨ap, tk, tq, tv, fa, sc, lf9, jf9, Tp, St, hTp, hRd⟩ := id rd
  by_cases hv : 0 ≤ v.toInt ∧ v.toInt ≤ ((255 : Nat) : Int)
  · by_cases ht : tp.length < 160
    · obtain ⟨k, hk, rfl⟩ := in_n hv
      have hl1 : (tp ++ [k]).length = tp.length + 1 := by simp
      have hT2 : TxL (tp ++ [k]) (Tp.set tp.length (nI k)) := by
        refine ⟨by omega, fun i hi => ?_, fun i => ?_⟩
        · by_cases e : i < tp.length
          · rw [sn_getD e, gset (by rw [hRd.2.2.2.1]; exact ht), if_neg (by omega)]; exact hTp.2.1 i e
          · obtain rfl : i = tp.length := by omega
            rw [sn_last, gset (by rw [hRd.2.2.2.1]; exact ht), if_pos rfl]
        · by_cases e : i < tp.length
          · rw [sn_getD e]; exact hTp.2.2 i
          · by_cases e2 : i = tp.length
            · rw [e2, sn_last]; exact hk
            · rw [sn_out (by omega)]; omega
      have h2 : RTP (up a 6 (nI (tp.length + 1))) (up b 2 ((b 2).set tp.length (nI k))) (tp ++ [k]) := by
        refine ⟨by rw [hl1]; rfl, fun j hj => ?_⟩
        show ((b 2).set tp.length (nI k)).getD j 0 = _
        by_cases e : j < tp.length
        · rw [sn_getD e, gset (by rw [hR.rlen (j := 2) (m := 160) (by omega) rfl]; exact ht), if_neg (by omega)]; exact iT.2 j e
        · obtain rfl : j = tp.length := by omega
          rw [sn_last, gset (by rw [hR.rlen (j := 2) (m := 160) (by omega) rfl]; exact ht), if_pos rfl]
      exact Spq.of (show PIv rr dn ru n K N W D kp r2 d2 u2 n2 K2 N2 W2 D2 TX (tp ++ [k]) sh from ⟨hrr, hdn, hru, hg, hz, hr2, hd2, hu2, hg2, hz2, hkp, hTX, ⟨by omega, fun j => hT2.2.2 j⟩, hsh⟩) hR ((c_feed k0 hRd ht hk).post (fun r σ1 q => ⟨q.1, hC.rd hru hT6 ⟨ap, tk, tq, tv, fa, sc, lf9, jf9, _, St, hT2, by rw [hl1]; exact q.2.1⟩ q.2.2 (fun i hi => by omega)⟩)) (by omega) (fun σ1 R1 => (r_feed R1 iT.1 htp.1 ht hk).post (fun r σ2 q => ⟨q.1, _, _, _, q.2, ⟨iC, i8, i4, iX, h2, iS, ikt, ikf⟩⟩)) (by omega)
    · exact Spq.of hP hR (Cn.c0 hC (c_feed_f k0 hRd (by have := htp.1; omega) hv)) (by omega) (fun σ1 R1 => Cn.r0 hI R1 (r_feed_f R1 iT.1 htp.1 (by have := htp.1; omega) hv)) (by omega)
  · exact Spq.of hP hR (Cn.c0 hC (c_feed_b k0 hRd hv)) (by omega) (fun σ1 R1 => Cn.r0 hI R1 (r_feed_b R1 iT.1 htp.1 hv)) (by omega)
