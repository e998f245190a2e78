/-! the state of both sides, what keeps it, one call of both -/
def rIx (i : Nat) : Nat := if i = 0 then 19 else 1997 + 3 * i
theorem rIx_c (i : Nat) : (i = 0 ∧ rIx i = 19) ∨ (1 ≤ i ∧ rIx i = 1997 + 3 * i) := by
  unfold rIx
  by_cases h : i = 0
  · exact Or.inl ⟨h, if_pos h⟩
  · exact Or.inr ⟨by omega, if_neg h⟩
/-- the class's texts -/
def TxC (σ : ZS) (TX : List (List Nat)) : Prop :=
  zg σ 16 = some (.inr (.inr (0, [.ref 17, .ref 18]))) ∧ (∃ rl : List (Option Nat), zg σ 17 = some (.inr (.inl (2, rl))) ∧ rl.length = 6 ∧ ∀ i, i < TX.length → rl[i]? = some (some (rIx i))) ∧ (∃ F : List Int32, zg σ 18 = some (.inl (0, F)) ∧ F.length = 6) ∧ ∀ i, i < TX.length → ∃ (S : List Nat) (lf jf : Nat), pText (TX.getD i []) = .inr (S, lf, jf) ∧ RuAt σ (rIx i) (rIx i + 1) (rIx i + 2) S lf jf ∧ ∃ Ks : List Int32, zg σ (rIx i + 2) = some (.inl (0, Ks)) ∧ Ks.length = S.length
theorem TxC.ma {σ : ZS} {TX : List (List Nat)} (h : TxC σ TX) {ru : Nat} (hr : ru < TX.length) (h6 : TX.length ≤ 6) : ∃ (S : List Nat) (lf jf : Nat), pText (TX.getD ru []) = .inr (S, lf, jf) ∧ MaW σ ru (rIx ru) (rIx ru + 1) (rIx ru + 2) S lf jf := by
  obtain ⟨h1, ⟨rl, h2, h3, h4⟩, h5, h7⟩ := h
  obtain ⟨S, lf, jf, g1, g2, g3⟩ := h7 ru hr
  have c := rIx_c ru
  exact ⟨S, lf, jf, g1, h1, ⟨rl, h2, h4 ru hr⟩, g2, g3, h5, by omega, by omega⟩
theorem RuAt.frx {σ σ' : ZS} {r s k : Nat} {S : List Nat} {lf jf : Nat} {P : Nat → Prop} (h : RuAt σ r s k S lf jf) (hF : Fr P σ σ') (hr : ¬ P r) (hs : ¬ P s) : RuAt σ' r s k S lf jf := ⟨hF.at hr h.1, hF.at hs h.2.1, h.2.2⟩
theorem TxC.fr {σ σ' : ZS} {TX : List (List Nat)} {P : Nat → Prop} (h : TxC σ TX) (hF : Fr P σ σ') (hP : ∀ i, (16 ≤ i ∧ i ≤ 21) ∨ (2000 ≤ i) → ¬ P i) : TxC σ' TX := by
  obtain ⟨h1, ⟨rl, h2, h3, h4⟩, ⟨F, h5, h6⟩, h7⟩ := h
  refine ⟨hF.at (hP _ (by omega)) h1, ⟨rl, hF.at (hP _ (by omega)) h2, h3, h4⟩, ⟨F, hF.at (hP _ (by omega)) h5, h6⟩, fun i hi => ?_⟩
  obtain ⟨S, lf, jf, g1, g2, Ks, g3, g4⟩ := h7 i hi
  have c := rIx_c i
  exact ⟨S, lf, jf, g1, g2.frx hF (hP _ (by omega)) (hP _ (by omega)), Ks, hF.at (hP _ (by omega)) g3, g4⟩
theorem TxC.keep {σ σ' : ZS} {TX : List (List Nat)} {P : Nat → Prop} (h : TxC σ TX) {ru : Nat} {S : List Nat} {lf jf : Nat} (hp : pText (TX.getD ru []) = .inr (S, lf, jf)) (hM : MaW σ' ru (rIx ru) (rIx ru + 1) (rIx ru + 2) S lf jf) (hF : Fr P σ σ') (hP : ∀ i, (16 ≤ i ∧ i ≤ 17) ∨ (19 ≤ i ∧ i ≤ 21) ∨ (2000 ≤ i) → i ≠ rIx ru + 2 → ¬ P i) : TxC σ' TX := by
  obtain ⟨h1, ⟨rl, h2, h3, h4⟩, -, h7⟩ := h
  obtain ⟨m1, m2, m3, m4, m5, m6⟩ := hM
  have cr := rIx_c ru
  refine ⟨m1, ⟨rl, hF.at (hP _ (by omega) (by omega)) h2, h3, h4⟩, m5, fun i hi => ?_⟩
  by_cases e : i = ru
  · subst e
    exact ⟨S, lf, jf, hp, m3, m4⟩
  · obtain ⟨S, lf, jf, g1, g2, Ks, g3, g4⟩ := h7 i hi
    have c := rIx_c i
    exact ⟨S, lf, jf, g1, g2.frx hF (hP _ (by omega) (by omega)) (hP _ (by omega) (by omega)), Ks, hF.at (hP _ (by omega) (by omega)) g3, g4⟩
/-- the class's reader, which holds the tape -/
def RdJ (σ : ZS) (tp : List Nat) : Prop := ∃ (ap tk tq tv fa sc lf jf : Int32) (Tp St : List Int32), TxL tp Tp ∧ Rd σ (nI tp.length) ap tk tq tv fa sc lf jf Tp St
theorem RdJ.fr {σ σ' : ZS} {tp : List Nat} {P : Nat → Prop} (h : RdJ σ tp) (hF : Fr P σ σ') (hP : ∀ i, 28 ≤ i ∧ i ≤ 30 → ¬ P i) : RdJ σ' tp := by
  obtain ⟨ap, tk, tq, tv, fa, sc, lf, jf, Tp, St, h1, h2⟩ := h
  exact ⟨ap, tk, tq, tv, fa, sc, lf, jf, Tp, St, h1, h2.fr hF hP⟩
/-- the class -/
def CIv (σ : ZS) (rr dn ru n : Nat) (K N : List Nat) (W : List Int32) (D : List Nat) (kp : Bool) (r2 d2 u2 n2 : Nat) (K2 N2 : List Nat) (W2 : List Int32) (D2 : List Nat) (TX : List (List Nat)) (tp : List Nat) (sh : Nat → SH) : Prop :=
  zg σ 0 = some (.inr (.inr (6, [.ref 1, .ref 6, .ref 11, .ref 16, .ref 22, .ref 28, .ref 31, .int (nI TX.length), .int (bI kp)]))) ∧ Pa σ 1 (nI rr) (nI dn) (nI ru) n K N W D ∧ Pa σ 6 (nI r2) (nI d2) (nI u2) n2 K2 N2 W2 D2 ∧ PaJ σ 11 ∧ SeJ σ ∧ TxC σ TX ∧ RdJ σ tp ∧ CSH σ sh ∧ Ln σ 40 18 (3 * (TX.length - 1))
/-- the reference -/
def RIv (a : Nat → Int32) (b : Nat → List Int32) (rr dn ru n : Nat) (K N : List Nat) (W : List Int32) (D : List Nat) (kp : Bool) (r2 d2 u2 n2 : Nat) (K2 N2 : List Nat) (W2 : List Int32) (D2 : List Nat) (TX : List (List Nat)) (tp : List Nat) (sh : Nat → SH) : Prop :=
  RC a b rr n K N W D (-1) ∧ a 8 = nI dn ∧ a 4 = nI ru ∧ RTX a b TX ∧ RTP a b tp ∧ RSH b sh ∧ (kp = true → a 44 = nI n2 ∧ a 45 = nI r2 ∧ a 46 = nI d2 ∧ a 47 = nI u2 ∧ b 10 = N2.map nI ∧ b 11 = W2 ∧ b 12 = D2.map nI) ∧ (kp = false → a 44 = -1)
/-- of the numbers alone -/
def PIv (rr dn ru n : Nat) (K N : List Nat) (W : List Int32) (D : List Nat) (kp : Bool) (r2 d2 u2 n2 : Nat) (K2 N2 : List Nat) (W2 : List Int32) (D2 : List Nat) (TX : List (List Nat)) (tp : List Nat) (sh : Nat → SH) : Prop :=
  rr ≤ 1 ∧ dn ≤ 999 ∧ ru < TX.length ∧ Dg D ∧ Dz n D ∧ r2 ≤ 1 ∧ d2 ≤ 999 ∧ u2 < TX.length ∧ Dg D2 ∧ Dz n2 D2 ∧ (kp = true → n2 ≤ n ∧ ∀ i, i < n2 → K.getD i 0 = K2.getD i 0) ∧ TXG TX ∧ TPG tp ∧ SHG sh
def INV (σ : ZS) : Prop := ∃ (rr dn ru n : Nat) (K N : List Nat) (W : List Int32) (D : List Nat) (kp : Bool) (r2 d2 u2 n2 : Nat) (K2 N2 : List Nat) (W2 : List Int32) (D2 : List Nat) (TX : List (List Nat)) (tp : List Nat) (sh : Nat → SH) (a : Nat → Int32) (tw : Int64) (b : Nat → List Int32), CIv σ rr dn ru n K N W D kp r2 d2 u2 n2 K2 N2 W2 D2 TX tp sh ∧ PIv rr dn ru n K N W D kp r2 d2 u2 n2 K2 N2 W2 D2 TX tp sh ∧ RM σ σ a tw b ∧ RIv a b rr dn ru n K N W D kp r2 d2 u2 n2 K2 N2 W2 D2 TX tp sh
def FC (σ σ' : ZS) : Prop := ∀ i, 1000 ≤ i ∧ i ≤ 1017 → zg σ' i = zg σ i
theorem FC.rf {σ : ZS} : FC σ σ := fun _ _ => rfl
theorem Fr.fc {σ σ' : ZS} {P : Nat → Prop} (h : Fr P σ σ') (hP : ∀ i, 1000 ≤ i ∧ i ≤ 1017 → ¬ P i) : FC σ σ' := fun i hi => h i (hP i hi)
theorem RM.cl {σ σ' : ZS} {a : Nat → Int32} {tw : Int64} {b : Nat → List Int32} (h : RM σ σ a tw b) (hF : FC σ σ') : RM σ' σ' a tw b := by
  obtain ⟨-, h1, h2, h3⟩ := h
  exact ⟨Fr.rf, (hF _ (by omega)).trans h1, fun j hj => (hF _ (by omega)).trans (h2 j hj), h3⟩
theorem Ln.e17 {σ : ZS} {c : Nat} (h : Ln σ 40 18 c) : ∃ e, zg σ 1017 = some e := by
  obtain ⟨-, h2, -⟩ := h
  rw [zg, if_neg (by omega), if_pos (by omega)]
  exact ⟨_, List.getElem?_eq_getElem (by omega)⟩
theorem Ln.of {σ σ' : ZS} {P : Nat → Prop} {c : Nat} (hF : Fr P σ σ') (h : Ln σ 40 18 c) (n40 : ¬ P 40) (n18 : ¬ P 1018) (nc : ¬ P (2000 + c)) (e39 : ∃ e, zg σ' 39 = some e) (e17 : ∃ e, zg σ' 1017 = some e) (ec : c = 0 ∨ ∃ e, zg σ' (2000 + (c - 1)) = some e) (hc : c < 900) : Ln σ' 40 18 c := by
  obtain ⟨h1, h2, h3⟩ := h
  have f1 := hF _ n40
  have f2 := hF _ n18
  have f3 := hF _ nc
  obtain ⟨x1, e1⟩ := e39
  obtain ⟨x2, e2⟩ := e17
  have z0 : ∀ (τ : ZS) (i : Nat), i < 1000 → zg τ i = τ.1[i]? := fun τ i hi => by rw [zg, if_pos hi]
  have z1 : ∀ (τ : ZS) (i : Nat), i < 1000 → zg τ (1000 + i) = τ.2.1[i]? := fun τ i hi => by rw [zg, if_neg (by omega), if_pos (by omega), Nat.add_sub_cancel_left]
  have z2 : ∀ (τ : ZS) (i : Nat), i < 1000 → zg τ (2000 + i) = τ.2.2[i]? := fun τ i hi => by rw [zg, if_neg (by omega), if_neg (by omega), if_pos (by omega), Nat.add_sub_cancel_left]
  rw [z0 _ 40 (by omega), z0 _ 40 (by omega), List.getElem?_eq_none (l := σ.1) (by omega)] at f1
  rw [show 1018 = 1000 + 18 from rfl, z1 _ 18 (by omega), z1 _ 18 (by omega), List.getElem?_eq_none (l := σ.2.1) (by omega)] at f2
  rw [z2 _ c (by omega), z2 _ c (by omega), List.getElem?_eq_none (l := σ.2.2) (by omega)] at f3
  rw [z0 _ 39 (by omega)] at e1
  rw [show 1017 = 1000 + 17 from rfl, z1 _ 17 (by omega)] at e2
  have g1 := List.getElem?_eq_none_iff.mp f1
  have g2 := List.getElem?_eq_none_iff.mp f2
  have g3 := List.getElem?_eq_none_iff.mp f3
  have k1 := (List.getElem?_eq_some_iff.mp e1).1
  have k2 := (List.getElem?_eq_some_iff.mp e2).1
  refine ⟨by omega, by omega, ?_⟩
  rcases ec with rfl | ⟨x3, e3⟩
  · omega
  · rw [z2 _ _ (by omega)] at e3
    have k3 := (List.getElem?_eq_some_iff.mp e3).1
    omega
theorem TxC.last {σ : ZS} {TX : List (List Nat)} (h : TxC σ TX) : 3 * (TX.length - 1) = 0 ∨ ∃ e, zg σ (2000 + (3 * (TX.length - 1) - 1)) = some e := by
  by_cases h2 : TX.length - 1 = 0
  · exact Or.inl (by omega)
  · obtain ⟨-, -, -, h7⟩ := h
    obtain ⟨S, lf, jf, g1, g2, Ks, g3, g4⟩ := h7 (TX.length - 1) (by omega)
    have c := rIx_c (TX.length - 1)
    exact Or.inr ⟨_, by rw [show 2000 + (3 * (TX.length - 1) - 1) = rIx (TX.length - 1) + 2 by omega]; exact g3⟩
/-- behind a call of the class that makes nothing -/
theorem Ln.cl {σ σ' : ZS} {P : Nat → Prop} {TX : List (List Nat)} {sh : Nat → SH} {ru : Nat} (hF : Fr P σ σ') (h : Ln σ 40 18 (3 * (TX.length - 1))) (hT : TxC σ' TX) (hS : CSH σ' sh) (hru : ru < TX.length) (h6 : TX.length ≤ 6) (hP : ∀ i, P i → i ≤ 39 ∨ i = rIx ru + 2) : Ln σ' 40 18 (3 * (TX.length - 1)) := by
  have c := rIx_c ru
  have q := fun i (hi : P i) => hP i hi
  refine Ln.of hF h (fun z => by have := hP _ z; omega) (fun z => by have := hP _ z; omega) (fun z => by have := hP _ z; omega) ⟨_, (hS.2 3 (by omega)).2⟩ ?_ hT.last (by omega)
  obtain ⟨e, he⟩ := h.e17
  exact ⟨e, hF.at (fun z => by have := hP _ z; omega) he⟩
/-- the class is as it was behind a call of the reference -/
theorem CIv.rf {σ σ' : ZS} {rr dn ru n : Nat} {K N : List Nat} {W : List Int32} {D : List Nat} {kp : Bool} {r2 d2 u2 n2 : Nat} {K2 N2 : List Nat} {W2 : List Int32} {D2 : List Nat} {TX : List (List Nat)} {tp : List Nat} {sh : Nat → SH} {a : Nat → Int32} {tw : Int64} {b : Nat → List Int32} (h : CIv σ rr dn ru n K N W D kp r2 d2 u2 n2 K2 N2 W2 D2 TX tp sh) (hR : RM σ σ' a tw b) (h6 : TX.length ≤ 6) : CIv σ' rr dn ru n K N W D kp r2 d2 u2 n2 K2 N2 W2 D2 TX tp sh := by
  obtain ⟨k0, p1, p6, p11, sj, tx, rd, cs, ln⟩ := h
  have F := hR.1
  have tx' := tx.fr F (fun i hi => by omega)
  have cs' := cs.fr F (fun i h1 h2 => by omega)
  exact ⟨F.at (by omega) k0, p1.fr F (fun i h1 h2 => by omega), p6.fr F (fun i h1 h2 => by omega), p11.fr F (fun i h1 h2 => by omega), sj.fr F (fun i hi => by omega), tx', rd.fr F (fun i hi => by omega), cs', Ln.of F ln (by omega) (by omega) (by omega) ⟨_, (cs'.2 3 (by omega)).2⟩ ⟨_, hR.2.2.1 16 (by omega)⟩ tx'.last (by omega)⟩
theorem RIv.fr {rr dn ru n : Nat} {K N : List Nat} {W : List Int32} {D : List Nat} {kp : Bool} {r2 d2 u2 n2 : Nat} {K2 N2 : List Nat} {W2 : List Int32} {D2 : List Nat} {TX : List (List Nat)} {tp : List Nat} {sh : Nat → SH} {a a' : Nat → Int32} {b b' : Nat → List Int32} (h : RIv a b rr dn ru n K N W D kp r2 d2 u2 n2 K2 N2 W2 D2 TX tp sh) (hA : FrR a a') (hB : ∀ j, j ≠ 7 → j ≠ 8 → j ≠ 9 → b' j = b j) : RIv a' b' rr dn ru n K N W D kp r2 d2 u2 n2 K2 N2 W2 D2 TX tp sh := by
  obtain ⟨iC, i8, i4, ⟨x1, x2⟩, ⟨t1, t2⟩, iS, ikt, ikf⟩ := h
  obtain ⟨c7, hrr, c13, hn7, c14, cK, cN, cW, cD, r⟩ := iC
  refine ⟨⟨(hA 7 (by omega)).trans c7, hrr, (hA 13 (by omega)).trans c13, hn7, (hA 14 (by omega)).trans c14, fun i hi => ?_, ?_, ?_, ?_, r⟩, (hA 8 (by omega)).trans i8, (hA 4 (by omega)).trans i4, ⟨(hA 3 (by omega)).trans x1, fun i hi => ?_⟩, ⟨(hA 6 (by omega)).trans t1, fun j hj => ?_⟩, iS.fr (hB 13 (by decide) (by decide) (by decide)) (hB 14 (by decide) (by decide) (by decide)) (hB 15 (by decide) (by decide) (by decide)) (hB 16 (by decide) (by decide) (by decide)), fun hk => ?_, fun hk => (hA 44 (by omega)).trans (ikf hk)⟩
  · rw [hB 3 (by decide) (by decide) (by decide)]; exact cK i hi
  · rw [hB 4 (by decide) (by decide) (by decide)]; exact cN
  · rw [hB 5 (by decide) (by decide) (by decide)]; exact cW
  · rw [hB 6 (by decide) (by decide) (by decide)]; exact cD
  · rw [hB 0 (by decide) (by decide) (by decide), hB 1 (by decide) (by decide) (by decide)]; exact x2 i hi
  · rw [hB 2 (by decide) (by decide) (by decide)]; exact t2 j hj
  · obtain ⟨y1, y2, y3, y4, y5, y6, y7⟩ := ikt hk
    exact ⟨(hA 44 (by omega)).trans y1, (hA 45 (by omega)).trans y2, (hA 46 (by omega)).trans y3, (hA 47 (by omega)).trans y4, (hB 10 (by decide) (by decide) (by decide)).trans y5, (hB 11 (by decide) (by decide) (by decide)).trans y6, (hB 12 (by decide) (by decide) (by decide)).trans y7⟩
theorem Fq.q9 {b b' : Nat → List Int32} (h : Fq b b') : ∀ j, j ≠ 7 → j ≠ 8 → j ≠ 9 → b' j = b j := fun j h7 h8 _ => h j h7 h8
/-- the rule's text, for the reference -/
theorem RIv.bw {rr dn ru n : Nat} {K N : List Nat} {W : List Int32} {D : List Nat} {kp : Bool} {r2 d2 u2 n2 : Nat} {K2 N2 : List Nat} {W2 : List Int32} {D2 : List Nat} {TX : List (List Nat)} {tp : List Nat} {sh : Nat → SH} {a : Nat → Int32} {b : Nat → List Int32} (h : RIv a b rr dn ru n K N W D kp r2 d2 u2 n2 K2 N2 W2 D2 TX tp sh) (hP : PIv rr dn ru n K N W D kp r2 d2 u2 n2 K2 N2 W2 D2 TX tp sh) {S : List Nat} {lf jf : Nat} (hp : pText (TX.getD ru []) = .inr (S, lf, jf)) : BW a b rr n K N W D (-1) ru (TX.getD ru []) S lf jf := by
  obtain ⟨iC, i8, i4, ⟨x1, x2⟩, -⟩ := h
  obtain ⟨hrr, hdn, hru, hg, hz, hr2, hd2, hu2, hg2, hz2, hkp, ⟨hT1, hT6, hTX⟩, htp, hsh⟩ := hP
  exact ⟨iC, i4, by omega, (hTX ru hru).1, (x2 ru hru).1, fun i hi => (x2 ru hru).2 i hi, (hTX ru hru).2.1, hp⟩
theorem Cn.up {k k' : Nat} {M : MD} {mc ms : Nat} {as : List Value} {σ : ZS} {Q : Option Value → ZS → Prop} (h : Cn k M mc ms as σ Q) (hk : k ≤ k') : Cn k' M mc ms as σ Q := fun d hd => h d (by omega)
/-- one call of both: they answer alike -/
def SpV (v : Value) (M7 M8 : MD) (mc ms : Nat) (as : List Value) (σ : ZS) : Prop := Cn 400 M7 mc ms (.ref 0 :: as) σ (fun r σ1 => r = some v ∧ (∃ fs : List Value, zg σ1 1000 = some (.inr (.inr (7, fs)))) ∧ Cn 400 M8 0 0 (.ref 1000 :: as) σ1 (fun r2 σ2 => r2 = some v ∧ INV σ2))
def Spq (M7 M8 : MD) (mc ms : Nat) (as : List Value) (σ : ZS) : Prop := ∃ z : Int32, SpV (.int z) M7 M8 mc ms as σ
def SpqL (M7 M8 : MD) (mc ms : Nat) (as : List Value) (σ : ZS) : Prop := ∃ z : Int64, SpV (.long z) M7 M8 mc ms as σ
theorem INV.o0 {σ : ZS} (h : INV σ) : ∃ fs : List Value, zg σ 0 = some (.inr (.inr (6, fs))) := by
  obtain ⟨rr, dn, ru, n, K, N, W, D, kp, r2, d2, u2, n2, K2, N2, W2, D2, TX, tp, sh, a, tw, b, hC, hP, hR, hI⟩ := h
  exact ⟨_, hC.1⟩
theorem SpV.of {rr dn ru n : Nat} {K N : List Nat} {W : List Int32} {D : List Nat} {kp : Bool} {r2 d2 u2 n2 : Nat} {K2 N2 : List Nat} {W2 : List Int32} {D2 : List Nat} {TX : List (List Nat)} {tp : List Nat} {sh : Nat → SH} {σ : ZS} {a : Nat → Int32} {tw : Int64} {b : Nat → List Int32} {M7 M8 : MD} {mc ms k7 k8 : Nat} {as : List Value} {v : Value} (hP : PIv rr dn ru n K N W D kp r2 d2 u2 n2 K2 N2 W2 D2 TX tp sh) (hR : RM σ σ a tw b) (h7 : Cn k7 M7 mc ms (.ref 0 :: as) σ (fun r σ1 => r = some v ∧ CIv σ1 rr dn ru n K N W D kp r2 d2 u2 n2 K2 N2 W2 D2 TX tp sh ∧ FC σ σ1)) (hk7 : k7 ≤ 400) (h8 : ∀ σ1, RM σ1 σ1 a tw b → Cn k8 M8 0 0 (.ref 1000 :: as) σ1 (fun r σ2 => r = some v ∧ ∃ (a' : Nat → Int32) (tw' : Int64) (b' : Nat → List Int32), RM σ1 σ2 a' tw' b' ∧ RIv a' b' rr dn ru n K N W D kp r2 d2 u2 n2 K2 N2 W2 D2 TX tp sh)) (hk8 : k8 ≤ 400) : SpV v M7 M8 mc ms as σ := by
  refine (h7.up hk7).post (fun r σ1 q => ?_)
  obtain ⟨q1, q2, q3⟩ := q
  have R1 := hR.cl q3
  refine ⟨q1, ⟨_, R1.2.1⟩, ((h8 σ1 R1).up hk8).post (fun rz σ2 z => ?_)⟩
  obtain ⟨z1, a', tw', b', z2, z3⟩ := z
  have h6 : TX.length ≤ 6 := by
    obtain ⟨hrr, hdn, hru, hg, hz, hr2, hd2, hu2, hg2, hz2, hkp, ⟨hT1, hT6, hTX⟩, htp, hsh⟩ := hP
    exact hT6
  exact ⟨z1, rr, dn, ru, n, K, N, W, D, kp, r2, d2, u2, n2, K2, N2, W2, D2, TX, tp, sh, a', tw', b', q2.rf z2 h6, hP, z2.self, z3⟩
theorem Spq.of {rr dn ru n : Nat} {K N : List Nat} {W : List Int32} {D : List Nat} {kp : Bool} {r2 d2 u2 n2 : Nat} {K2 N2 : List Nat} {W2 : List Int32} {D2 : List Nat} {TX : List (List Nat)} {tp : List Nat} {sh : Nat → SH} {σ : ZS} {a : Nat → Int32} {tw : Int64} {b : Nat → List Int32} {M7 M8 : MD} {mc ms k7 k8 : Nat} {as : List Value} {z : Int32} (hP : PIv rr dn ru n K N W D kp r2 d2 u2 n2 K2 N2 W2 D2 TX tp sh) (hR : RM σ σ a tw b) (h7 : Cn k7 M7 mc ms (.ref 0 :: as) σ (fun r σ1 => r = some (.int z) ∧ CIv σ1 rr dn ru n K N W D kp r2 d2 u2 n2 K2 N2 W2 D2 TX tp sh ∧ FC σ σ1)) (hk7 : k7 ≤ 400) (h8 : ∀ σ1, RM σ1 σ1 a tw b → Cn k8 M8 0 0 (.ref 1000 :: as) σ1 (fun r σ2 => r = some (.int z) ∧ ∃ (a' : Nat → Int32) (tw' : Int64) (b' : Nat → List Int32), RM σ1 σ2 a' tw' b' ∧ RIv a' b' rr dn ru n K N W D kp r2 d2 u2 n2 K2 N2 W2 D2 TX tp sh)) (hk8 : k8 ≤ 400) : Spq M7 M8 mc ms as σ := ⟨z, SpV.of hP hR h7 hk7 h8 hk8⟩
theorem SpqL.of {rr dn ru n : Nat} {K N : List Nat} {W : List Int32} {D : List Nat} {kp : Bool} {r2 d2 u2 n2 : Nat} {K2 N2 : List Nat} {W2 : List Int32} {D2 : List Nat} {TX : List (List Nat)} {tp : List Nat} {sh : Nat → SH} {σ : ZS} {a : Nat → Int32} {tw : Int64} {b : Nat → List Int32} {M7 M8 : MD} {mc ms k7 k8 : Nat} {as : List Value} {z : Int64} (hP : PIv rr dn ru n K N W D kp r2 d2 u2 n2 K2 N2 W2 D2 TX tp sh) (hR : RM σ σ a tw b) (h7 : Cn k7 M7 mc ms (.ref 0 :: as) σ (fun r σ1 => r = some (.long z) ∧ CIv σ1 rr dn ru n K N W D kp r2 d2 u2 n2 K2 N2 W2 D2 TX tp sh ∧ FC σ σ1)) (hk7 : k7 ≤ 400) (h8 : ∀ σ1, RM σ1 σ1 a tw b → Cn k8 M8 0 0 (.ref 1000 :: as) σ1 (fun r σ2 => r = some (.long z) ∧ ∃ (a' : Nat → Int32) (tw' : Int64) (b' : Nat → List Int32), RM σ1 σ2 a' tw' b' ∧ RIv a' b' rr dn ru n K N W D kp r2 d2 u2 n2 K2 N2 W2 D2 TX tp sh)) (hk8 : k8 ≤ 400) : SpqL M7 M8 mc ms as σ := ⟨z, SpV.of hP hR h7 hk7 h8 hk8⟩
theorem Cn.c0 {rr dn ru n : Nat} {K N : List Nat} {W : List Int32} {D : List Nat} {kp : Bool} {r2 d2 u2 n2 : Nat} {K2 N2 : List Nat} {W2 : List Int32} {D2 : List Nat} {TX : List (List Nat)} {tp : List Nat} {sh : Nat → SH} {σ : ZS} {k : Nat} {M : MD} {mc ms : Nat} {as : List Value} {v : Value} (hC : CIv σ rr dn ru n K N W D kp r2 d2 u2 n2 K2 N2 W2 D2 TX tp sh) (h : Cn k M mc ms as σ (fun r9 σ' => r9 = some v ∧ σ' = σ)) : Cn k M mc ms as σ (fun r σ1 => r = some v ∧ CIv σ1 rr dn ru n K N W D kp r2 d2 u2 n2 K2 N2 W2 D2 TX tp sh ∧ FC σ σ1) :=
  h.post (fun r σ1 q => by obtain ⟨q1, rfl⟩ := q; exact ⟨q1, hC, FC.rf⟩)
theorem Cn.r0 {rr dn ru n : Nat} {K N : List Nat} {W : List Int32} {D : List Nat} {kp : Bool} {r2 d2 u2 n2 : Nat} {K2 N2 : List Nat} {W2 : List Int32} {D2 : List Nat} {TX : List (List Nat)} {tp : List Nat} {sh : Nat → SH} {σ : ZS} {k : Nat} {M : MD} {as : List Value} {v : Value} {a : Nat → Int32} {tw : Int64} {b : Nat → List Int32} (hI : RIv a b rr dn ru n K N W D kp r2 d2 u2 n2 K2 N2 W2 D2 TX tp sh) (hR : RM σ σ a tw b) (h : Cn k M 0 0 as σ (fun r9 σ' => r9 = some v ∧ σ' = σ)) : Cn k M 0 0 as σ (fun r σ2 => r = some v ∧ ∃ (a' : Nat → Int32) (tw' : Int64) (b' : Nat → List Int32), RM σ σ2 a' tw' b' ∧ RIv a' b' rr dn ru n K N W D kp r2 d2 u2 n2 K2 N2 W2 D2 TX tp sh) :=
  h.post (fun r σ1 q => by obtain ⟨q1, rfl⟩ := q; exact ⟨q1, a, tw, b, hR, hI⟩)
theorem Cn.r1 {rr dn ru n : Nat} {K N : List Nat} {W : List Int32} {D : List Nat} {kp : Bool} {r2 d2 u2 n2 : Nat} {K2 N2 : List Nat} {W2 : List Int32} {D2 : List Nat} {TX : List (List Nat)} {tp : List Nat} {sh : Nat → SH} {σ : ZS} {k : Nat} {M : MD} {as : List Value} {v : Value} {a : Nat → Int32} {b : Nat → List Int32} (hI : RIv a b rr dn ru n K N W D kp r2 d2 u2 n2 K2 N2 W2 D2 TX tp sh) (h : Cn k M 0 0 as σ (fun r9 σ' => ∃ (a' : Nat → Int32) (tw' : Int64) (b' : Nat → List Int32), r9 = some v ∧ RM σ σ' a' tw' b' ∧ FrR a a' ∧ Fq b b')) : Cn k M 0 0 as σ (fun r σ2 => r = some v ∧ ∃ (a' : Nat → Int32) (tw' : Int64) (b' : Nat → List Int32), RM σ σ2 a' tw' b' ∧ RIv a' b' rr dn ru n K N W D kp r2 d2 u2 n2 K2 N2 W2 D2 TX tp sh) :=
  h.post (fun r σ1 q => by obtain ⟨a', tw', b', q1, q2, q3, q4⟩ := q; exact ⟨q1, a', tw', b', q2, hI.fr q3 q4.q9⟩)
theorem Cn.r2 {rr dn ru n : Nat} {K N : List Nat} {W : List Int32} {D : List Nat} {kp : Bool} {r2 d2 u2 n2 : Nat} {K2 N2 : List Nat} {W2 : List Int32} {D2 : List Nat} {TX : List (List Nat)} {tp : List Nat} {sh : Nat → SH} {σ : ZS} {k : Nat} {M : MD} {as : List Value} {v : Value} {a : Nat → Int32} {b : Nat → List Int32} (hI : RIv a b rr dn ru n K N W D kp r2 d2 u2 n2 K2 N2 W2 D2 TX tp sh) (h : Cn k M 0 0 as σ (fun r9 σ' => r9 = some v ∧ ∃ (a' : Nat → Int32) (tw' : Int64) (b' : Nat → List Int32), RM σ σ' a' tw' b' ∧ FrR a a' ∧ (∀ j, j ≠ 7 → j ≠ 8 → j ≠ 9 → b' j = b j))) : Cn k M 0 0 as σ (fun r σ2 => r = some v ∧ ∃ (a' : Nat → Int32) (tw' : Int64) (b' : Nat → List Int32), RM σ σ2 a' tw' b' ∧ RIv a' b' rr dn ru n K N W D kp r2 d2 u2 n2 K2 N2 W2 D2 TX tp sh) :=
  h.post (fun r σ1 q => by obtain ⟨q1, a', tw', b', q2, q3, q4⟩ := q; exact ⟨q1, a', tw', b', q2, hI.fr q3 q4⟩)
theorem in_n {x : Int32} {m : Nat} (h : 0 ≤ x.toInt ∧ x.toInt ≤ (m : Int)) : ∃ k : Nat, k ≤ m ∧ x = nI k := ⟨x.toInt.toNat, by omega, ni_of h.1⟩
theorem in_l {x : Int32} {m : Nat} (h : 0 ≤ x.toInt ∧ x.toInt < (m : Int)) : ∃ k : Nat, k < m ∧ x = nI k := ⟨x.toInt.toNat, by omega, ni_of h.1⟩
