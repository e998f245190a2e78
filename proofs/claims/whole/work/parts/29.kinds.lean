/-! small static methods: bounds, kinds -/
def inB (v lo hi : Int32) : Bool := decide (lo ≤ v) && decide (v ≤ hi)
def bndI (v lo hi : Int32) : Int32 := if v < lo then lo else if hi < v then hi else v
def letsS (k nu d v : Nat) : Nat := if k = 1 then v / 2 else if k = 2 then 2 * v else if k = 3 then v / 2 + nu else if k = 4 then (if d < 100 then d else 2 * v) else if k = 5 then 0 else v
def lendS (k nu v : Nat) : Nat := if k = 1 ∨ k = 3 then 0 else if k = 2 then v + nu else if k = 4 then (v + nu) / 2 else v
def gladI (k nu : Nat) (v : Int32) (w : Bool) : Int32 := if k = 1 ∨ k = 3 then (if w then v + nI 10 else v - nI 5) else if k = 2 then nI 2 * (if w then v + nI 10 else v) else if k = 4 then nI 2 * (if w then v + nI 10 else v) + nI nu else if k = 5 then nI 3 else (if w then v + nI 10 else v)
set_option maxHeartbeats 4000000 in
theorem c_isWithin {σ : ZS} (v lo hi : Int32) : Cn 0 M_X7_isWithin 0 0 [.int v, .int lo, .int hi] σ (fun r σ' => r = some (.int (bI (inB v lo hi))) ∧ σ' = σ) := by
  refine Cn.intro (lv0 := [some (.int v), some (.int lo), some (.int hi)]) rfl (Nat.le_of_ble_eq_true rfl) rfl (fun d hd => ?_)
  refine x_iload_n dX7_isWithin_0 rfl ?_
  refine x_iload_n dX7_isWithin_1 rfl ?_
  refine x_icmp_lt (tgt := 14) dX7_isWithin_2 (by decide) (fun h1 => ?_) (fun h1 => ?_)
  · refine x_iconst (v := nI 0) dX7_isWithin_14 (by decide) ?_
    exact x_zret ⟨Nat.le_refl _, Nat.le_refl _⟩ rfl (by decide) dX7_isWithin_15 ⟨by rw [show inB v lo hi = false from by simp only [inB]; rw [decide_eq_false (Int32.not_le.mpr h1), Bool.false_and]]; rfl, rfl⟩
  · refine x_iload_n dX7_isWithin_5 rfl ?_
    refine x_iload_n dX7_isWithin_6 rfl ?_
    refine x_icmp_gt (tgt := 14) dX7_isWithin_7 (by decide) (fun h2 => ?_) (fun h2 => ?_)
    · refine x_iconst (v := nI 0) dX7_isWithin_14 (by decide) ?_
      exact x_zret ⟨Nat.le_refl _, Nat.le_refl _⟩ rfl (by decide) dX7_isWithin_15 ⟨by rw [show inB v lo hi = false from by simp only [inB]; rw [decide_eq_false (Int32.not_le.mpr h2), Bool.and_false]]; rfl, rfl⟩
    · refine x_iconst (v := nI 1) dX7_isWithin_10 (by decide) ?_
      refine x_goto (tgt := 15) dX7_isWithin_11 (by decide) ?_
      exact x_zret ⟨Nat.le_refl _, Nat.le_refl _⟩ rfl (by decide) dX7_isWithin_15 ⟨by rw [show inB v lo hi = true from by simp only [inB]; rw [decide_eq_true (Int32.not_lt.mp h1), decide_eq_true (Int32.not_lt.mp h2)]; rfl]; rfl, rfl⟩
set_option maxHeartbeats 4000000 in
theorem c_bounded {σ : ZS} (v lo hi : Int32) : Cn 0 M_X7_bounded 0 0 [.int v, .int lo, .int hi] σ (fun r σ' => r = some (.int (bndI v lo hi)) ∧ σ' = σ) := by
  refine Cn.intro (lv0 := [some (.int v), some (.int lo), some (.int hi)]) rfl (Nat.le_of_ble_eq_true rfl) rfl (fun d hd => ?_)
  refine x_iload_n dX7_bounded_0 rfl ?_
  refine x_iload_n dX7_bounded_1 rfl ?_
  refine x_icmp_ge (tgt := 9) dX7_bounded_2 (by decide) (fun h1 => ?_) (fun h1 => ?_)
  · refine x_iload_n dX7_bounded_9 rfl ?_
    refine x_iload_n dX7_bounded_10 rfl ?_
    refine x_icmp_le (tgt := 18) dX7_bounded_11 (by decide) (fun h2 => ?_) (fun h2 => ?_)
    · refine x_iload_n dX7_bounded_18 rfl ?_
      exact x_iret ⟨Nat.le_refl _, Nat.le_refl _⟩ rfl dX7_bounded_19 ⟨by rw [bndI, if_neg (Int32.not_lt.mpr h1), if_neg (Int32.not_lt.mpr h2)], rfl⟩
    · refine x_iload_n dX7_bounded_14 rfl ?_
      refine x_goto (tgt := 19) dX7_bounded_15 (by decide) ?_
      exact x_iret ⟨Nat.le_refl _, Nat.le_refl _⟩ rfl dX7_bounded_19 ⟨by rw [bndI, if_neg (Int32.not_lt.mpr h1), if_pos (Int32.not_le.mp h2)], rfl⟩
  · refine x_iload_n dX7_bounded_5 rfl ?_
    refine x_goto (tgt := 19) dX7_bounded_6 (by decide) ?_
    exact x_iret ⟨Nat.le_refl _, Nat.le_refl _⟩ rfl dX7_bounded_19 ⟨by rw [bndI, if_pos (Int32.not_le.mp h1)], rfl⟩
set_option maxHeartbeats 4000000 in
theorem c_isKind {σ : ZS} (k : Int32) : Cn 1 M_X0_isKind 0 0 [.int k] σ (fun r σ' => r = some (.int (bI (inB k (nI 0) (nI 5)))) ∧ σ' = σ) := by
  refine Cn.intro (lv0 := [some (.int k)]) rfl (Nat.le_of_ble_eq_true rfl) rfl (fun d hd => ?_)
  refine x_iload_n dX0_isKind_0 rfl ?_
  refine x_iconst (v := nI 0) dX0_isKind_1 (by decide) ?_
  refine x_iconst (v := nI 5) dX0_isKind_2 (by decide) ?_
  refine x_callSN m_X7_isWithin n_X0_11 (c_isWithin k (nI 0) (nI 5)) (by omega) rfl rfl (Nat.le_of_ble_eq_true rfl) ⟨Nat.le_refl _, Nat.le_refl _⟩ dX0_isKind_3 (fun r1 s1 q1 => ?_)
  obtain ⟨rfl, e1⟩ := q1
  obtain rfl := e1.symm
  refine x_stk (st' := [.int (bI ((inB k (nI 0) (nI 5))))]) rfl ?_
  exact x_zret ⟨Nat.le_refl _, Nat.le_refl _⟩ rfl (bI_nar _) dX0_isKind_6 ⟨rfl, rfl⟩
set_option maxHeartbeats 4000000 in
theorem c_must {σ : ZS} {k nu ow : Nat} (hk : k ≤ 5) (hnu : nu ≤ 9) (how : ow ≤ 999) : Cn 0 M_X0_must 0 0 [.int (nI k), .int (nI nu), .int (nI ow)] σ (fun r σ' => r = some (.int (bI (mustB k nu ow))) ∧ σ' = σ) := by
  refine Cn.intro (lv0 := [some (.int (nI k)), some (.int (nI nu)), some (.int (nI ow))]) rfl (Nat.le_of_ble_eq_true rfl) rfl (fun d hd => ?_)
  refine x_iload_n dX0_must_0 rfl ?_
  rcases (show k = 1 ∨ k = 2 ∨ k = 3 ∨ k = 4 ∨ k = 5 ∨ k = 0 by omega) with rfl | rfl | rfl | rfl | rfl | rfl
  · refine x_tableIn (tgt := 36) dX0_must_1 (by decide) (by decide) rfl (by decide) ?_
    refine x_iload_n dX0_must_36 rfl ?_
    refine x_bipush (v := nI 10) dX0_must_37 (by decide) ?_
    refine x_iload_n dX0_must_39 rfl ?_
    refine x_imulN dX0_must_40 ?_
    refine x_icmpN_le (tgt := 48) dX0_must_41 (by decide) (by omega) (by omega) (fun h1 => ?_) (fun h1 => ?_)
    · refine x_iconst (v := nI 0) dX0_must_48 (by decide) ?_
      exact x_zret ⟨Nat.le_refl _, Nat.le_refl _⟩ rfl (by decide) dX0_must_49 ⟨by first | rfl | (simp only [mustB]; simp_all [bI, nI_0, nI_one]; done) | (simp only [mustB]; simp_all [bI, nI_0, nI_one]; omega), rfl⟩
    · refine x_iconst (v := nI 1) dX0_must_44 (by decide) ?_
      refine x_goto (tgt := 49) dX0_must_45 (by decide) ?_
      exact x_zret ⟨Nat.le_refl _, Nat.le_refl _⟩ rfl (by decide) dX0_must_49 ⟨by first | rfl | (simp only [mustB]; simp_all [bI, nI_0, nI_one]; done) | (simp only [mustB]; simp_all [bI, nI_0, nI_one]; omega), rfl⟩
  · refine x_tableIn (tgt := 50) dX0_must_1 (by decide) (by decide) rfl (by decide) ?_
    refine x_iconst (v := nI 0) dX0_must_50 (by decide) ?_
    exact x_zret ⟨Nat.le_refl _, Nat.le_refl _⟩ rfl (by decide) dX0_must_51 ⟨by first | rfl | (simp only [mustB]; simp_all [bI, nI_0, nI_one]; done) | (simp only [mustB]; simp_all [bI, nI_0, nI_one]; omega), rfl⟩
  · refine x_tableIn (tgt := 52) dX0_must_1 (by decide) (by decide) rfl (by decide) ?_
    refine x_iload_n dX0_must_52 rfl ?_
    refine x_iconst (v := nI 2) dX0_must_53 (by decide) ?_
    refine x_iremN (by omega) (by omega) (by omega) dX0_must_54 ?_
    refine x_ifN_ne (tgt := 70) dX0_must_55 (by decide) (by omega) (fun h2 => ?_) (fun h2 => ?_)
    · refine x_iconst (v := nI 0) dX0_must_70 (by decide) ?_
      exact x_zret ⟨Nat.le_refl _, Nat.le_refl _⟩ rfl (by decide) dX0_must_71 ⟨by first | rfl | (simp only [mustB]; simp_all [bI, nI_0, nI_one]; done) | (simp only [mustB]; simp_all [bI, nI_0, nI_one]; omega), rfl⟩
    · refine x_iload_n dX0_must_58 rfl ?_
      refine x_bipush (v := nI 10) dX0_must_59 (by decide) ?_
      refine x_iload_n dX0_must_61 rfl ?_
      refine x_imulN dX0_must_62 ?_
      refine x_icmpN_le (tgt := 70) dX0_must_63 (by decide) (by omega) (by omega) (fun h3 => ?_) (fun h3 => ?_)
      · refine x_iconst (v := nI 0) dX0_must_70 (by decide) ?_
        exact x_zret ⟨Nat.le_refl _, Nat.le_refl _⟩ rfl (by decide) dX0_must_71 ⟨by first | rfl | (simp only [mustB]; simp_all [bI, nI_0, nI_one]; done) | (simp only [mustB]; simp_all [bI, nI_0, nI_one]; omega), rfl⟩
      · refine x_iconst (v := nI 1) dX0_must_66 (by decide) ?_
        refine x_goto (tgt := 71) dX0_must_67 (by decide) ?_
        exact x_zret ⟨Nat.le_refl _, Nat.le_refl _⟩ rfl (by decide) dX0_must_71 ⟨by first | rfl | (simp only [mustB]; simp_all [bI, nI_0, nI_one]; done) | (simp only [mustB]; simp_all [bI, nI_0, nI_one]; omega), rfl⟩
  · refine x_tableIn (tgt := 72) dX0_must_1 (by decide) (by decide) rfl (by decide) ?_
    refine x_iload_n dX0_must_72 rfl ?_
    refine x_sipush (v := nI 500) dX0_must_73 (by decide) ?_
    refine x_icmpN_le (tgt := 83) dX0_must_76 (by decide) (by omega) (by omega) (fun h4 => ?_) (fun h4 => ?_)
    · refine x_iconst (v := nI 0) dX0_must_83 (by decide) ?_
      exact x_zret ⟨Nat.le_refl _, Nat.le_refl _⟩ rfl (by decide) dX0_must_84 ⟨by first | rfl | (simp only [mustB]; simp_all [bI, nI_0, nI_one]; done) | (simp only [mustB]; simp_all [bI, nI_0, nI_one]; omega), rfl⟩
    · refine x_iconst (v := nI 1) dX0_must_79 (by decide) ?_
      refine x_goto (tgt := 84) dX0_must_80 (by decide) ?_
      exact x_zret ⟨Nat.le_refl _, Nat.le_refl _⟩ rfl (by decide) dX0_must_84 ⟨by first | rfl | (simp only [mustB]; simp_all [bI, nI_0, nI_one]; done) | (simp only [mustB]; simp_all [bI, nI_0, nI_one]; omega), rfl⟩
  · refine x_tableIn (tgt := 85) dX0_must_1 (by decide) (by decide) rfl (by decide) ?_
    refine x_iload_n dX0_must_85 rfl ?_
    refine x_iconst (v := nI 2) dX0_must_86 (by decide) ?_
    refine x_iremN (by omega) (by omega) (by omega) dX0_must_87 ?_
    refine x_iconst (v := nI 1) dX0_must_88 (by decide) ?_
    refine x_icmpN_ne (tgt := 96) dX0_must_89 (by decide) (by omega) (by omega) (fun h5 => ?_) (fun h5 => ?_)
    · refine x_iconst (v := nI 0) dX0_must_96 (by decide) ?_
      exact x_zret ⟨Nat.le_refl _, Nat.le_refl _⟩ rfl (by decide) dX0_must_97 ⟨by first | rfl | (simp only [mustB]; simp_all [bI, nI_0, nI_one]; done) | (simp only [mustB]; simp_all [bI, nI_0, nI_one]; omega), rfl⟩
    · refine x_iconst (v := nI 1) dX0_must_92 (by decide) ?_
      refine x_goto (tgt := 97) dX0_must_93 (by decide) ?_
      exact x_zret ⟨Nat.le_refl _, Nat.le_refl _⟩ rfl (by decide) dX0_must_97 ⟨by first | rfl | (simp only [mustB]; simp_all [bI, nI_0, nI_one]; done) | (simp only [mustB]; simp_all [bI, nI_0, nI_one]; omega), rfl⟩
  · refine x_tableOut (tgt := 98) dX0_must_1 (by decide) (by decide) ?_
    refine x_iconst (v := nI 1) dX0_must_98 (by decide) ?_
    exact x_zret ⟨Nat.le_refl _, Nat.le_refl _⟩ rfl (by decide) dX0_must_99 ⟨by first | rfl | (simp only [mustB]; simp_all [bI, nI_0, nI_one]; done) | (simp only [mustB]; simp_all [bI, nI_0, nI_one]; omega), rfl⟩
set_option maxHeartbeats 4000000 in
theorem c_letsGo {σ : ZS} {k nu ow v : Nat} (hk : k ≤ 5) (hnu : nu ≤ 9) (how : ow ≤ 999) (hv : v ≤ 99) : Cn 0 M_X0_letsGo 0 0 [.int (nI k), .int (nI nu), .int (nI ow), .int (nI v)] σ (fun r σ' => r = some (.int (nI (letsS k nu ow v))) ∧ σ' = σ) := by
  refine Cn.intro (lv0 := [some (.int (nI k)), some (.int (nI nu)), some (.int (nI ow)), some (.int (nI v))]) rfl (Nat.le_of_ble_eq_true rfl) rfl (fun d hd => ?_)
  refine x_iload_n dX0_letsGo_0 rfl ?_
  rcases (show k = 1 ∨ k = 2 ∨ k = 3 ∨ k = 4 ∨ k = 5 ∨ k = 0 by omega) with rfl | rfl | rfl | rfl | rfl | rfl
  · refine x_tableIn (tgt := 36) dX0_letsGo_1 (by decide) (by decide) rfl (by decide) ?_
    refine x_iload_n dX0_letsGo_36 rfl ?_
    refine x_iconst (v := nI 2) dX0_letsGo_37 (by decide) ?_
    refine x_idivN (by omega) (by omega) (by omega) dX0_letsGo_38 ?_
    exact x_iret ⟨Nat.le_refl _, Nat.le_refl _⟩ rfl dX0_letsGo_39 ⟨by first | rfl | (simp [letsS, *]; done) | (simp [lendS]; done) | (simp only [letsS]; rw [if_neg (show ¬ ow < 100 by omega)]; rfl), rfl⟩
  · refine x_tableIn (tgt := 40) dX0_letsGo_1 (by decide) (by decide) rfl (by decide) ?_
    refine x_iconst (v := nI 2) dX0_letsGo_40 (by decide) ?_
    refine x_iload_n dX0_letsGo_41 rfl ?_
    refine x_imulN dX0_letsGo_42 ?_
    exact x_iret ⟨Nat.le_refl _, Nat.le_refl _⟩ rfl dX0_letsGo_43 ⟨by first | rfl | (simp [letsS, *]; done) | (simp [lendS]; done) | (simp only [letsS]; rw [if_neg (show ¬ ow < 100 by omega)]; rfl), rfl⟩
  · refine x_tableIn (tgt := 44) dX0_letsGo_1 (by decide) (by decide) rfl (by decide) ?_
    refine x_iload_n dX0_letsGo_44 rfl ?_
    refine x_iconst (v := nI 2) dX0_letsGo_45 (by decide) ?_
    refine x_idivN (by omega) (by omega) (by omega) dX0_letsGo_46 ?_
    refine x_iload_n dX0_letsGo_47 rfl ?_
    refine x_iaddN dX0_letsGo_48 ?_
    exact x_iret ⟨Nat.le_refl _, Nat.le_refl _⟩ rfl dX0_letsGo_49 ⟨by first | rfl | (simp [letsS, *]; done) | (simp [lendS]; done) | (simp only [letsS]; rw [if_neg (show ¬ ow < 100 by omega)]; rfl), rfl⟩
  · refine x_tableIn (tgt := 50) dX0_letsGo_1 (by decide) (by decide) rfl (by decide) ?_
    refine x_iload_n dX0_letsGo_50 rfl ?_
    refine x_bipush (v := nI 100) dX0_letsGo_51 (by decide) ?_
    refine x_icmpN_ge (tgt := 60) dX0_letsGo_53 (by decide) (by omega) (by omega) (fun h1 => ?_) (fun h1 => ?_)
    · refine x_iconst (v := nI 2) dX0_letsGo_60 (by decide) ?_
      refine x_iload_n dX0_letsGo_61 rfl ?_
      refine x_imulN dX0_letsGo_62 ?_
      exact x_iret ⟨Nat.le_refl _, Nat.le_refl _⟩ rfl dX0_letsGo_63 ⟨by first | rfl | (simp [letsS, *]; done) | (simp [lendS]; done) | (simp only [letsS]; rw [if_neg (show ¬ ow < 100 by omega)]; rfl), rfl⟩
    · refine x_iload_n dX0_letsGo_56 rfl ?_
      refine x_goto (tgt := 63) dX0_letsGo_57 (by decide) ?_
      exact x_iret ⟨Nat.le_refl _, Nat.le_refl _⟩ rfl dX0_letsGo_63 ⟨by first | rfl | (simp [letsS, *]; done) | (simp [lendS]; done) | (simp only [letsS]; rw [if_neg (show ¬ ow < 100 by omega)]; rfl), rfl⟩
  · refine x_tableIn (tgt := 64) dX0_letsGo_1 (by decide) (by decide) rfl (by decide) ?_
    refine x_iconst (v := nI 0) dX0_letsGo_64 (by decide) ?_
    exact x_iret ⟨Nat.le_refl _, Nat.le_refl _⟩ rfl dX0_letsGo_65 ⟨by first | rfl | (simp [letsS, *]; done) | (simp [lendS]; done) | (simp only [letsS]; rw [if_neg (show ¬ ow < 100 by omega)]; rfl), rfl⟩
  · refine x_tableOut (tgt := 66) dX0_letsGo_1 (by decide) (by decide) ?_
    refine x_iload_n dX0_letsGo_66 rfl ?_
    exact x_iret ⟨Nat.le_refl _, Nat.le_refl _⟩ rfl dX0_letsGo_67 ⟨by first | rfl | (simp [letsS, *]; done) | (simp [lendS]; done) | (simp only [letsS]; rw [if_neg (show ¬ ow < 100 by omega)]; rfl), rfl⟩
set_option maxHeartbeats 4000000 in
theorem c_lends {σ : ZS} {k nu v : Nat} (hk : k ≤ 5) (hnu : nu ≤ 9) (hv : v ≤ 99) : Cn 0 M_X0_lends 0 0 [.int (nI k), .int (nI nu), .int (nI v)] σ (fun r σ' => r = some (.int (nI (lendS k nu v))) ∧ σ' = σ) := by
  refine Cn.intro (lv0 := [some (.int (nI k)), some (.int (nI nu)), some (.int (nI v))]) rfl (Nat.le_of_ble_eq_true rfl) rfl (fun d hd => ?_)
  refine x_iload_n dX0_lends_0 rfl ?_
  rcases (show k = 1 ∨ k = 2 ∨ k = 3 ∨ k = 4 ∨ k = 0 ∨ k = 5 by omega) with rfl | rfl | rfl | rfl | rfl | rfl
  · refine x_tableIn (tgt := 32) dX0_lends_1 (by decide) (by decide) rfl (by decide) ?_
    refine x_iconst (v := nI 0) dX0_lends_32 (by decide) ?_
    exact x_iret ⟨Nat.le_refl _, Nat.le_refl _⟩ rfl dX0_lends_33 ⟨by first | rfl | (simp [letsS, *]; done) | (simp [lendS]; done) | (simp only [letsS]; rw [if_neg (show ¬ ow < 100 by omega)]; rfl), rfl⟩
  · refine x_tableIn (tgt := 34) dX0_lends_1 (by decide) (by decide) rfl (by decide) ?_
    refine x_iload_n dX0_lends_34 rfl ?_
    refine x_iload_n dX0_lends_35 rfl ?_
    refine x_iaddN dX0_lends_36 ?_
    exact x_iret ⟨Nat.le_refl _, Nat.le_refl _⟩ rfl dX0_lends_37 ⟨by first | rfl | (simp [letsS, *]; done) | (simp [lendS]; done) | (simp only [letsS]; rw [if_neg (show ¬ ow < 100 by omega)]; rfl), rfl⟩
  · refine x_tableIn (tgt := 32) dX0_lends_1 (by decide) (by decide) rfl (by decide) ?_
    refine x_iconst (v := nI 0) dX0_lends_32 (by decide) ?_
    exact x_iret ⟨Nat.le_refl _, Nat.le_refl _⟩ rfl dX0_lends_33 ⟨by first | rfl | (simp [letsS, *]; done) | (simp [lendS]; done) | (simp only [letsS]; rw [if_neg (show ¬ ow < 100 by omega)]; rfl), rfl⟩
  · refine x_tableIn (tgt := 38) dX0_lends_1 (by decide) (by decide) rfl (by decide) ?_
    refine x_iload_n dX0_lends_38 rfl ?_
    refine x_iload_n dX0_lends_39 rfl ?_
    refine x_iaddN dX0_lends_40 ?_
    refine x_iconst (v := nI 2) dX0_lends_41 (by decide) ?_
    refine x_idivN (by omega) (by omega) (by omega) dX0_lends_42 ?_
    exact x_iret ⟨Nat.le_refl _, Nat.le_refl _⟩ rfl dX0_lends_43 ⟨by first | rfl | (simp [letsS, *]; done) | (simp [lendS]; done) | (simp only [letsS]; rw [if_neg (show ¬ ow < 100 by omega)]; rfl), rfl⟩
  · refine x_tableOut (tgt := 44) dX0_lends_1 (by decide) (by decide) ?_
    refine x_iload_n dX0_lends_44 rfl ?_
    exact x_iret ⟨Nat.le_refl _, Nat.le_refl _⟩ rfl dX0_lends_45 ⟨by first | rfl | (simp [letsS, *]; done) | (simp [lendS]; done) | (simp only [letsS]; rw [if_neg (show ¬ ow < 100 by omega)]; rfl), rfl⟩
  · refine x_tableOut (tgt := 44) dX0_lends_1 (by decide) (by decide) ?_
    refine x_iload_n dX0_lends_44 rfl ?_
    exact x_iret ⟨Nat.le_refl _, Nat.le_refl _⟩ rfl dX0_lends_45 ⟨by first | rfl | (simp [letsS, *]; done) | (simp [lendS]; done) | (simp only [letsS]; rw [if_neg (show ¬ ow < 100 by omega)]; rfl), rfl⟩
set_option maxHeartbeats 4000000 in
theorem c_glad {σ : ZS} {k nu : Nat} {v : Int32} {b : Bool} (hk : k ≤ 5) : Cn 0 M_X0_glad 0 0 [.int (nI k), .int (nI nu), .int v, .int (bI b)] σ (fun r σ' => r = some (.int (gladI k nu v b)) ∧ σ' = σ) := by
  refine Cn.intro (lv0 := [some (.int (nI k)), some (.int (nI nu)), some (.int v), some (.int (bI b)), none]) rfl (Nat.le_of_ble_eq_true rfl) rfl (fun d hd => ?_)
  refine x_iload_n dX0_glad_0 rfl ?_
  refine x_ifB_eq (tgt := 11) dX0_glad_1 (by decide) (fun h1 => ?_) (fun h1 => ?_)
  · refine x_iload_n dX0_glad_11 rfl ?_
    refine x_istore dX0_glad_12 (by decide) rfl ?_
    refine x_lv (lv' := [some (.int (nI k)), some (.int (nI nu)), some (.int v), some (.int (bI b)), some (.int v)]) rfl ?_
    refine x_iload_n dX0_glad_14 rfl ?_
    rcases (show k = 1 ∨ k = 2 ∨ k = 3 ∨ k = 4 ∨ k = 5 ∨ k = 0 by omega) with rfl | rfl | rfl | rfl | rfl | rfl
    · refine x_tableIn (tgt := 48) dX0_glad_15 (by decide) (by decide) rfl (by decide) ?_
      refine x_iload_n dX0_glad_48 rfl ?_
      refine x_ifB_eq (tgt := 57) dX0_glad_49 (by decide) (fun h2 => ?_) (fun h2 => ?_)
      · refine x_iload dX0_glad_57 rfl ?_
        refine x_iconst (v := nI 5) dX0_glad_59 (by decide) ?_
        refine x_isub dX0_glad_60 ?_
        exact x_iret ⟨Nat.le_refl _, Nat.le_refl _⟩ rfl dX0_glad_61 ⟨by simp_all [gladI], rfl⟩
      · refine x_iload dX0_glad_52 rfl ?_
        refine x_goto (tgt := 61) dX0_glad_54 (by decide) ?_
        exact x_iret ⟨Nat.le_refl _, Nat.le_refl _⟩ rfl dX0_glad_61 ⟨by simp_all [gladI], rfl⟩
    · refine x_tableIn (tgt := 62) dX0_glad_15 (by decide) (by decide) rfl (by decide) ?_
      refine x_iconst (v := nI 2) dX0_glad_62 (by decide) ?_
      refine x_iload dX0_glad_63 rfl ?_
      refine x_imul dX0_glad_65 ?_
      exact x_iret ⟨Nat.le_refl _, Nat.le_refl _⟩ rfl dX0_glad_66 ⟨by simp_all [gladI], rfl⟩
    · refine x_tableIn (tgt := 48) dX0_glad_15 (by decide) (by decide) rfl (by decide) ?_
      refine x_iload_n dX0_glad_48 rfl ?_
      refine x_ifB_eq (tgt := 57) dX0_glad_49 (by decide) (fun h3 => ?_) (fun h3 => ?_)
      · refine x_iload dX0_glad_57 rfl ?_
        refine x_iconst (v := nI 5) dX0_glad_59 (by decide) ?_
        refine x_isub dX0_glad_60 ?_
        exact x_iret ⟨Nat.le_refl _, Nat.le_refl _⟩ rfl dX0_glad_61 ⟨by simp_all [gladI], rfl⟩
      · refine x_iload dX0_glad_52 rfl ?_
        refine x_goto (tgt := 61) dX0_glad_54 (by decide) ?_
        exact x_iret ⟨Nat.le_refl _, Nat.le_refl _⟩ rfl dX0_glad_61 ⟨by simp_all [gladI], rfl⟩
    · refine x_tableIn (tgt := 67) dX0_glad_15 (by decide) (by decide) rfl (by decide) ?_
      refine x_iconst (v := nI 2) dX0_glad_67 (by decide) ?_
      refine x_iload dX0_glad_68 rfl ?_
      refine x_imul dX0_glad_70 ?_
      refine x_iload_n dX0_glad_71 rfl ?_
      refine x_iadd dX0_glad_72 ?_
      exact x_iret ⟨Nat.le_refl _, Nat.le_refl _⟩ rfl dX0_glad_73 ⟨by simp_all [gladI], rfl⟩
    · refine x_tableIn (tgt := 74) dX0_glad_15 (by decide) (by decide) rfl (by decide) ?_
      refine x_iconst (v := nI 3) dX0_glad_74 (by decide) ?_
      exact x_iret ⟨Nat.le_refl _, Nat.le_refl _⟩ rfl dX0_glad_75 ⟨by simp_all [gladI], rfl⟩
    · refine x_tableOut (tgt := 76) dX0_glad_15 (by decide) (by decide) ?_
      refine x_iload dX0_glad_76 rfl ?_
      exact x_iret ⟨Nat.le_refl _, Nat.le_refl _⟩ rfl dX0_glad_78 ⟨by simp_all [gladI], rfl⟩
  · refine x_iload_n dX0_glad_4 rfl ?_
    refine x_bipush (v := nI 10) dX0_glad_5 (by decide) ?_
    refine x_iadd dX0_glad_7 ?_
    refine x_goto (tgt := 12) dX0_glad_8 (by decide) ?_
    refine x_istore dX0_glad_12 (by decide) rfl ?_
    refine x_lv (lv' := [some (.int (nI k)), some (.int (nI nu)), some (.int v), some (.int (bI b)), some (.int ((v + nI 10)))]) rfl ?_
    refine x_iload_n dX0_glad_14 rfl ?_
    rcases (show k = 1 ∨ k = 2 ∨ k = 3 ∨ k = 4 ∨ k = 5 ∨ k = 0 by omega) with rfl | rfl | rfl | rfl | rfl | rfl
    · refine x_tableIn (tgt := 48) dX0_glad_15 (by decide) (by decide) rfl (by decide) ?_
      refine x_iload_n dX0_glad_48 rfl ?_
      refine x_ifB_eq (tgt := 57) dX0_glad_49 (by decide) (fun h4 => ?_) (fun h4 => ?_)
      · refine x_iload dX0_glad_57 rfl ?_
        refine x_iconst (v := nI 5) dX0_glad_59 (by decide) ?_
        refine x_isub dX0_glad_60 ?_
        exact x_iret ⟨Nat.le_refl _, Nat.le_refl _⟩ rfl dX0_glad_61 ⟨by simp_all [gladI], rfl⟩
      · refine x_iload dX0_glad_52 rfl ?_
        refine x_goto (tgt := 61) dX0_glad_54 (by decide) ?_
        exact x_iret ⟨Nat.le_refl _, Nat.le_refl _⟩ rfl dX0_glad_61 ⟨by simp_all [gladI], rfl⟩
    · refine x_tableIn (tgt := 62) dX0_glad_15 (by decide) (by decide) rfl (by decide) ?_
      refine x_iconst (v := nI 2) dX0_glad_62 (by decide) ?_
      refine x_iload dX0_glad_63 rfl ?_
      refine x_imul dX0_glad_65 ?_
      exact x_iret ⟨Nat.le_refl _, Nat.le_refl _⟩ rfl dX0_glad_66 ⟨by simp_all [gladI], rfl⟩
    · refine x_tableIn (tgt := 48) dX0_glad_15 (by decide) (by decide) rfl (by decide) ?_
      refine x_iload_n dX0_glad_48 rfl ?_
      refine x_ifB_eq (tgt := 57) dX0_glad_49 (by decide) (fun h5 => ?_) (fun h5 => ?_)
      · refine x_iload dX0_glad_57 rfl ?_
        refine x_iconst (v := nI 5) dX0_glad_59 (by decide) ?_
        refine x_isub dX0_glad_60 ?_
        exact x_iret ⟨Nat.le_refl _, Nat.le_refl _⟩ rfl dX0_glad_61 ⟨by simp_all [gladI], rfl⟩
      · refine x_iload dX0_glad_52 rfl ?_
        refine x_goto (tgt := 61) dX0_glad_54 (by decide) ?_
        exact x_iret ⟨Nat.le_refl _, Nat.le_refl _⟩ rfl dX0_glad_61 ⟨by simp_all [gladI], rfl⟩
    · refine x_tableIn (tgt := 67) dX0_glad_15 (by decide) (by decide) rfl (by decide) ?_
      refine x_iconst (v := nI 2) dX0_glad_67 (by decide) ?_
      refine x_iload dX0_glad_68 rfl ?_
      refine x_imul dX0_glad_70 ?_
      refine x_iload_n dX0_glad_71 rfl ?_
      refine x_iadd dX0_glad_72 ?_
      exact x_iret ⟨Nat.le_refl _, Nat.le_refl _⟩ rfl dX0_glad_73 ⟨by simp_all [gladI], rfl⟩
    · refine x_tableIn (tgt := 74) dX0_glad_15 (by decide) (by decide) rfl (by decide) ?_
      refine x_iconst (v := nI 3) dX0_glad_74 (by decide) ?_
      exact x_iret ⟨Nat.le_refl _, Nat.le_refl _⟩ rfl dX0_glad_75 ⟨by simp_all [gladI], rfl⟩
    · refine x_tableOut (tgt := 76) dX0_glad_15 (by decide) (by decide) ?_
      refine x_iload dX0_glad_76 rfl ?_
      exact x_iret ⟨Nat.le_refl _, Nat.le_refl _⟩ rfl dX0_glad_78 ⟨by simp_all [gladI], rfl⟩
