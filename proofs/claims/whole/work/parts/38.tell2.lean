/-- what a part of a rule tells -/
def tellV (F : List Int32) (S : List Nat) (f0 t0 : Nat) (lo : Int32) : Int32 := bndI ((runE F (segE S f0 (t0 - f0))).getLastD 0) lo (nI 99)
set_option maxHeartbeats 4000000 in
theorem c_tell0 {σ : ZS} {r s k fr : Nat} {S : List Nat} {lf jf : Nat} {F Ks : List Int32} (hR : RuAt σ r s k S lf jf) (gk : zg σ k = some (.inl (0, Ks))) (hKl : Ks.length = S.length) (gf : zg σ fr = some (.inl (0, F))) (hF6 : F.length = 6) (hkf : k ≠ fr) : Cn 1 M_X4_tell 0 0 [.ref r, .int (nI 0), .ref fr] σ (fun r9 σ' => r9 = some (.int (tellV F S 0 lf (nI 0))) ∧ Fr (fun i => i = k) σ σ' ∧ ∃ K' : List Int32, zg σ' k = some (.inl (0, K')) ∧ K'.length = S.length) := by
  obtain ⟨g0, g1, hS160, hlj, hjS, hSok, hkr, hks⟩ := id hR
  refine Cn.intro (lv0 := [some (.ref r), some (.int (nI 0)), some (.ref fr), none, none, none, none, none]) rfl (Nat.le_of_ble_eq_true rfl) rfl (fun d hd => ?_)
  refine x_iload_n dX4_tell_0 rfl ?_
  refine x_ifN_ne (tgt := 8) dX4_tell_1 (by decide) (by omega) (fun h1 => ?_) (fun h1 => ?_)
  · exact absurd h1 (by decide)
  · refine x_iconst (v := nI 0) dX4_tell_4 (by decide) ?_
    refine x_goto (tgt := 24) dX4_tell_5 (by decide) ?_
    refine x_istore_n dX4_tell_24 (by decide) rfl ?_
    refine x_lv (lv' := [some (.ref r), some (.int (nI 0)), some (.ref fr), some (.int (nI 0)), none, none, none, none]) rfl ?_
    refine x_iload_n dX4_tell_25 rfl ?_
    refine x_ifN_ne (tgt := 36) dX4_tell_26 (by decide) (by omega) (fun h2 => ?_) (fun h2 => ?_)
    · exact absurd h2 (by decide)
    · refine x_aload_n dX4_tell_29 rfl ?_
      refine x_get (v := .int (nI lf)) f_X4_13 g0 rfl dX4_tell_30 ?_
      refine x_goto (tgt := 53) dX4_tell_33 (by decide) ?_
      refine x_istore dX4_tell_53 (by decide) rfl ?_
      refine x_lv (lv' := [some (.ref r), some (.int (nI 0)), some (.ref fr), some (.int (nI 0)), some (.int (nI lf)), none, none, none]) rfl ?_
      refine x_iconst (v := nI 0) dX4_tell_55 (by decide) ?_
      refine x_istore dX4_tell_56 (by decide) rfl ?_
      refine x_lv (lv' := [some (.ref r), some (.int (nI 0)), some (.ref fr), some (.int (nI 0)), some (.int (nI lf)), some (.int (nI 0)), none, none]) rfl ?_
      refine x_iload_n dX4_tell_58 rfl ?_
      refine x_istore dX4_tell_59 (by decide) rfl ?_
      refine x_lv (lv' := [some (.ref r), some (.int (nI 0)), some (.ref fr), some (.int (nI 0)), some (.int (nI lf)), some (.int (nI 0)), some (.int (nI 0)), none]) rfl ?_
      exact l_tell (lo := (nI 0)) hF6 hkf (by omega) (by omega) (by omega) rfl hd (lf - 0) 0 [] Ks Ks σ rfl rfl (Nat.le_refl _) hR gk hKl gf Fr.rf (by omega)
set_option maxHeartbeats 4000000 in
theorem c_tell1 {σ : ZS} {r s k fr : Nat} {S : List Nat} {lf jf : Nat} {F Ks : List Int32} (hR : RuAt σ r s k S lf jf) (gk : zg σ k = some (.inl (0, Ks))) (hKl : Ks.length = S.length) (gf : zg σ fr = some (.inl (0, F))) (hF6 : F.length = 6) (hkf : k ≠ fr) : Cn 1 M_X4_tell 0 0 [.ref r, .int (nI 1), .ref fr] σ (fun r9 σ' => r9 = some (.int (tellV F S lf jf (nI 0))) ∧ Fr (fun i => i = k) σ σ' ∧ ∃ K' : List Int32, zg σ' k = some (.inl (0, K')) ∧ K'.length = S.length) := by
  obtain ⟨g0, g1, hS160, hlj, hjS, hSok, hkr, hks⟩ := id hR
  refine Cn.intro (lv0 := [some (.ref r), some (.int (nI 1)), some (.ref fr), none, none, none, none, none]) rfl (Nat.le_of_ble_eq_true rfl) rfl (fun d hd => ?_)
  refine x_iload_n dX4_tell_0 rfl ?_
  refine x_ifN_ne (tgt := 8) dX4_tell_1 (by decide) (by omega) (fun h1 => ?_) (fun h1 => ?_)
  · refine x_iload_n dX4_tell_8 rfl ?_
    refine x_iconst (v := nI 1) dX4_tell_9 (by decide) ?_
    refine x_icmpN_ne (tgt := 20) dX4_tell_10 (by decide) (by omega) (by omega) (fun h2 => ?_) (fun h2 => ?_)
    · exact absurd h2 (by decide)
    · refine x_aload_n dX4_tell_13 rfl ?_
      refine x_get (v := .int (nI lf)) f_X4_13 g0 rfl dX4_tell_14 ?_
      refine x_goto (tgt := 24) dX4_tell_17 (by decide) ?_
      refine x_istore_n dX4_tell_24 (by decide) rfl ?_
      refine x_lv (lv' := [some (.ref r), some (.int (nI 1)), some (.ref fr), some (.int (nI lf)), none, none, none, none]) rfl ?_
      refine x_iload_n dX4_tell_25 rfl ?_
      refine x_ifN_ne (tgt := 36) dX4_tell_26 (by decide) (by omega) (fun h3 => ?_) (fun h3 => ?_)
      · refine x_iload_n dX4_tell_36 rfl ?_
        refine x_iconst (v := nI 1) dX4_tell_37 (by decide) ?_
        refine x_icmpN_ne (tgt := 48) dX4_tell_38 (by decide) (by omega) (by omega) (fun h4 => ?_) (fun h4 => ?_)
        · exact absurd h4 (by decide)
        · refine x_aload_n dX4_tell_41 rfl ?_
          refine x_get (v := .int (nI jf)) f_X4_17 g0 rfl dX4_tell_42 ?_
          refine x_goto (tgt := 53) dX4_tell_45 (by decide) ?_
          refine x_istore dX4_tell_53 (by decide) rfl ?_
          refine x_lv (lv' := [some (.ref r), some (.int (nI 1)), some (.ref fr), some (.int (nI lf)), some (.int (nI jf)), none, none, none]) rfl ?_
          refine x_iconst (v := nI 0) dX4_tell_55 (by decide) ?_
          refine x_istore dX4_tell_56 (by decide) rfl ?_
          refine x_lv (lv' := [some (.ref r), some (.int (nI 1)), some (.ref fr), some (.int (nI lf)), some (.int (nI jf)), some (.int (nI 0)), none, none]) rfl ?_
          refine x_iload_n dX4_tell_58 rfl ?_
          refine x_istore dX4_tell_59 (by decide) rfl ?_
          refine x_lv (lv' := [some (.ref r), some (.int (nI 1)), some (.ref fr), some (.int (nI lf)), some (.int (nI jf)), some (.int (nI 0)), some (.int (nI lf)), none]) rfl ?_
          exact l_tell (lo := (nI 0)) hF6 hkf (by omega) (by omega) (by omega) rfl hd (jf - lf) 0 [] Ks Ks σ rfl rfl (Nat.le_refl _) hR gk hKl gf Fr.rf (by omega)
      · exact absurd h3 (by decide)
  · exact absurd h1 (by decide)
set_option maxHeartbeats 4000000 in
theorem c_tell2 {σ : ZS} {r s k fr : Nat} {S : List Nat} {lf jf : Nat} {F Ks : List Int32} (hR : RuAt σ r s k S lf jf) (gk : zg σ k = some (.inl (0, Ks))) (hKl : Ks.length = S.length) (gf : zg σ fr = some (.inl (0, F))) (hF6 : F.length = 6) (hkf : k ≠ fr) : Cn 1 M_X4_tell 0 0 [.ref r, .int (nI 2), .ref fr] σ (fun r9 σ' => r9 = some (.int (tellV F S jf S.length (-99))) ∧ Fr (fun i => i = k) σ σ' ∧ ∃ K' : List Int32, zg σ' k = some (.inl (0, K')) ∧ K'.length = S.length) := by
  obtain ⟨g0, g1, hS160, hlj, hjS, hSok, hkr, hks⟩ := id hR
  refine Cn.intro (lv0 := [some (.ref r), some (.int (nI 2)), some (.ref fr), none, none, none, none, none]) rfl (Nat.le_of_ble_eq_true rfl) rfl (fun d hd => ?_)
  refine x_iload_n dX4_tell_0 rfl ?_
  refine x_ifN_ne (tgt := 8) dX4_tell_1 (by decide) (by omega) (fun h1 => ?_) (fun h1 => ?_)
  · refine x_iload_n dX4_tell_8 rfl ?_
    refine x_iconst (v := nI 1) dX4_tell_9 (by decide) ?_
    refine x_icmpN_ne (tgt := 20) dX4_tell_10 (by decide) (by omega) (by omega) (fun h2 => ?_) (fun h2 => ?_)
    · refine x_aload_n dX4_tell_20 rfl ?_
      refine x_get (v := .int (nI jf)) f_X4_17 g0 rfl dX4_tell_21 ?_
      refine x_istore_n dX4_tell_24 (by decide) rfl ?_
      refine x_lv (lv' := [some (.ref r), some (.int (nI 2)), some (.ref fr), some (.int (nI jf)), none, none, none, none]) rfl ?_
      refine x_iload_n dX4_tell_25 rfl ?_
      refine x_ifN_ne (tgt := 36) dX4_tell_26 (by decide) (by omega) (fun h3 => ?_) (fun h3 => ?_)
      · refine x_iload_n dX4_tell_36 rfl ?_
        refine x_iconst (v := nI 1) dX4_tell_37 (by decide) ?_
        refine x_icmpN_ne (tgt := 48) dX4_tell_38 (by decide) (by omega) (by omega) (fun h4 => ?_) (fun h4 => ?_)
        · refine x_aload_n dX4_tell_48 rfl ?_
          refine x_get (v := .ref s) f_X4_7 g0 rfl dX4_tell_49 ?_
          refine x_alen (by decide) g1 dX4_tell_52 ?_
          refine x_istore dX4_tell_53 (by decide) rfl ?_
          refine x_lv (lv' := [some (.ref r), some (.int (nI 2)), some (.ref fr), some (.int (nI jf)), some (.int (nI ((S.map nI).length))), none, none, none]) rfl ?_
          refine x_iconst (v := nI 0) dX4_tell_55 (by decide) ?_
          refine x_istore dX4_tell_56 (by decide) rfl ?_
          refine x_lv (lv' := [some (.ref r), some (.int (nI 2)), some (.ref fr), some (.int (nI jf)), some (.int (nI ((S.map nI).length))), some (.int (nI 0)), none, none]) rfl ?_
          refine x_iload_n dX4_tell_58 rfl ?_
          refine x_istore dX4_tell_59 (by decide) rfl ?_
          refine x_lv (lv' := [some (.ref r), some (.int (nI 2)), some (.ref fr), some (.int (nI jf)), some (.int (nI ((S.map nI).length))), some (.int (nI 0)), some (.int (nI jf)), none]) rfl ?_
          rw [List.length_map]
          exact l_tell (lo := (-99)) hF6 hkf (by omega) (by omega) (by omega) rfl hd (S.length - jf) 0 [] Ks Ks σ rfl rfl (Nat.le_refl _) hR gk hKl gf Fr.rf (by omega)
        · exact absurd h4 (by decide)
      · exact absurd h3 (by decide)
    · exact absurd h2 (by decide)
  · exact absurd h1 (by decide)
