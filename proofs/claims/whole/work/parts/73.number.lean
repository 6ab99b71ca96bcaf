/-! numbers on the tape -/
def dgE (tb : Nat → Nat) : Nat → Nat → Nat
  | 0, e => e
  | d + 1, e => if 48 ≤ tb e ∧ tb e ≤ 57 then dgE tb d (e + 1) else e
def vlC (tb : Nat → Nat) : Nat → Nat → Nat → Nat
  | 0, _, v => v
  | d + 1, e, v => if 48 ≤ tb e ∧ tb e ≤ 57 then vlC tb d (e + 1) (if 100 < 10 * v + (tb e - 48) then 100 else 10 * v + (tb e - 48)) else v
def vlM (tb : Nat → Nat) : Nat → Nat → Nat → Nat
  | 0, _, v => v
  | d + 1, e, v => if 48 ≤ tb e ∧ tb e ≤ 57 then vlM tb d (e + 1) (if 999 < v then v else 10 * v + (tb e - 48)) else v
theorem dgE_le (tb : Nat → Nat) : ∀ d e, e ≤ dgE tb d e ∧ dgE tb d e ≤ e + d
  | 0, e => ⟨Nat.le_refl _, Nat.le_refl _⟩
  | d + 1, e => by
    have ih := dgE_le tb d (e + 1)
    rw [dgE]
    split <;> omega
def vRel (vc vn : Nat) : Prop := (vc ≤ 99 ∧ vn = vc) ∨ (vc = 100 ∧ 100 ≤ vn ∧ vn ≤ 10000)
theorem vl_rel (tb : Nat → Nat) : ∀ d e vc vn, vRel vc vn → vRel (vlC tb d e vc) (vlM tb d e vn)
  | 0, _, _, _, h => h
  | d + 1, e, vc, vn, h => by
    rw [vlC, vlM]
    by_cases hd : 48 ≤ tb e ∧ tb e ≤ 57
    · rw [if_pos hd, if_pos hd]
      apply vl_rel tb d (e + 1)
      unfold vRel at h ⊢
      rcases h with ⟨h1, h2⟩ | ⟨h1, h2, h3⟩
      · subst h2
        rw [if_neg (show ¬ 999 < vn by omega)]
        split <;> omega
      · subst h1
        rw [if_pos (show 100 < 10 * 100 + (tb e - 48) by omega)]
        split <;> omega
    · rw [if_neg hd, if_neg hd]; exact h
theorem P_d10 {h : AH} {Q : Option Value → AH → Prop} {c : Nat} (hc : c ≤ 126) (hd : 48 ≤ c ∧ c ≤ 57) : WpM 22 [.int (nI c), .int 10] h Q = Q (some (.int (nI (c - 48)))) h := by
  rw [show (10 : Int32) = nI 10 from rfl, P_digitOf, dg_all c hc 10 (by decide), if_pos (by omega)]
theorem P_d10n {h : AH} {Q : Option Value → AH → Prop} {c : Nat} (hc : c ≤ 126) (hd : ¬ (48 ≤ c ∧ c ≤ 57)) : WpM 22 [.int (nI c), .int 10] h Q = Q (some (.int (-4))) h := by
  rw [show (10 : Int32) = nI 10 from rfl, P_digitOf, dg_all c hc 10 (by decide), if_neg (by omega)]
theorem in57 : ∀ c, c ≤ 126 → ((nI c).toInt64 < 48 ∨ (57 : Int64) < (nI c).toInt64) = ¬ (48 ≤ c ∧ c ≤ 57) := by
  intro c hc
  apply propext
  rw [fa_lt64, fa_lt64, Int32.toInt_toInt64, nI_toInt (by omega)]
  have e1 : (48 : Int64).toInt = 48 := rfl
  have e2 : (57 : Int64).toInt = 57 := rfl
  omega
theorem min100 {x : Nat} (hx : x < 2 ^ 31) : (if (100 : Int32) < nI x then (100 : Int32) else nI x) = nI (if 100 < x then 100 else x) := by
  have e : ((100 : Int32) < nI x) = (100 < x) := by
    apply propext
    rw [fa_lt, nI_toInt hx]
    have : (100 : Int32).toInt = 100 := rfl
    omega
  simp only [e]
  split <;> rfl
section NUMBER
variable {h : AH} {Q : Option Value → AH → Prop} {tb : Nat → Nat} {l p : Nat} {bt tp : Nat → Int32} {ho pu ye bo wr : Int32} {be : Int64} {kn pr im : Int32}
theorem P_num_loop {at' : Int32} (hT : Tb tb l) (hb : ∀ k, k < l → bt k = nI (tb k)) (h26 : h 26 = aO 2 [.ref 27, .int (nI l), .int at']) (h27 : h 27 = aB 100 bt) : ∀ (d e v : Nat), e + d = l → v ≤ 100 → Wp none 24 qP_readNumber_12 [some (.ref 26), some (.int (nI v)), some (.int (nI e))] [] h Q = Wp none 24 qP_readNumber_64 [some (.ref 26), some (.int (nI (vlC tb d e v))), some (.int (nI (dgE tb d e)))] [] h Q := by
  have hl := hT.1
  intro d
  induction d with
  | zero =>
    intro e v he hv
    have e' : e = l := by omega
    subst e'
    have hc : nI e ≤ nI e := nI_le (Nat.le_refl e) (by omega)
    rw [qP_readNumber_12]
    simp only [jP_readNumber_64, w0, w1, w2i, w2r, w3, w4, w5_0, w5_1, w5_2, w5_3, w5_4, w5_5, w5_6, w5_7, w5_8, w6_0, w6_1, w7_0, w7_1, w7_2, w7_3, w7_4, w7_5, w8_0, w8_1, w9_0, w9_1, w9_2, w10_0, w10_1, w10_2, w10_3, w10_4, w10_5, w11, w12_0, w12_1, w12_2, w12_3, w12_4, w12_5, w13_0, w13_1, w13_2, w13_3, w13_4, w13_5, w14, w15i, w15r, w16, w17, w18, w19i, w19z, w19l, w20, w21, w22, w23, w24, w25, w26, w27, w28_1, w28_2, w28_3, w28_4, w28_5, w28_6, w29, w30i, w30z, w31, w32, w33, w34, w35, w36, w37_1, w37_2, w37_3, w37_4, w37_5, w37_6, isO_O, set1_0, set1_1i, set1_1r, set1_1n, set1_1l, set1_s, set2_0, set2_1i, set2_1r, set2_1n, set2_1l, set2_s, ldv_i, ldv_l, ldv_r, ldv_s, ldi_i, ldi_s, fK_0, fK_s, gfc_O, fS_0, fS_s, uH_s, uH_n, uH_u, tl_s, tl_n, b1_0, b1_1, ite_true, ite_false, if_true, if_false, List.length_nil, List.length_cons, Nat.zero_le, Nat.zero_add, Nat.reduceAdd, Nat.reduceLeDiff, Nat.reduceLT, Nat.reduceEqDiff, Nat.reduceMul, Nat.add_left_cancel_iff, not_false_eq_true, h26, hc]
    rfl
  | succ d ih =>
    intro e v he hv
    have hc : ¬ nI l ≤ nI e := nI_ge (by omega) (by omega)
    have t := hT.2 e (by omega)
    rw [dgE, vlC]
    by_cases hd : 48 ≤ tb e ∧ tb e ≤ 57
    · rw [if_pos hd, if_pos hd, ← ih (e + 1) _ (by omega) (by split <;> omega)]
      conv => lhs; rw [qP_readNumber_12]
      simp only [jP_readNumber_12, w0, w1, w2i, w2r, w3, w4, w5_0, w5_1, w5_2, w5_3, w5_4, w5_5, w5_6, w5_7, w5_8, w6_0, w6_1, w7_0, w7_1, w7_2, w7_3, w7_4, w7_5, w8_0, w8_1, w9_0, w9_1, w9_2, w10_0, w10_1, w10_2, w10_3, w10_4, w10_5, w11, w12_0, w12_1, w12_2, w12_3, w12_4, w12_5, w13_0, w13_1, w13_2, w13_3, w13_4, w13_5, w14, w15i, w15r, w16, w17, w18, w19i, w19z, w19l, w20, w21, w22, w23, w24, w25, w26, w27, w28_1, w28_2, w28_3, w28_4, w28_5, w28_6, w29, w30i, w30z, w31, w32, w33, w34, w35, w36, w37_1, w37_2, w37_3, w37_4, w37_5, w37_6, isO_O, set1_0, set1_1i, set1_1r, set1_1n, set1_1l, set1_s, set2_0, set2_1i, set2_1r, set2_1n, set2_1l, set2_s, ldv_i, ldv_l, ldv_r, ldv_s, ldi_i, ldi_s, fK_0, fK_s, gfc_O, fS_0, fS_s, uH_s, uH_n, uH_u, tl_s, tl_n, b1_0, b1_1, ite_true, ite_false, if_true, if_false, List.length_nil, List.length_cons, Nat.zero_le, Nat.zero_add, Nat.reduceAdd, Nat.reduceLeDiff, Nat.reduceLT, Nat.reduceEqDiff, Nat.reduceMul, Nat.add_left_cancel_iff, not_false_eq_true, i10, Bool.false_eq_true, z01, ne_eq, not_true_eq_false, not_false_eq_true, or_self, true_or, or_true, false_or, or_false, h26, h27, hc, rBc_n (show e < 100 by omega) (show 100 < 2 ^ 31 by decide), hb e (by omega), P_d10 (show tb e ≤ 126 by omega) hd, dg_ne (show tb e - 48 < 256 by omega), n10, nI_add, min100 (show 10 * v + (tb e - 48) < 2 ^ 31 by omega), nI_1]
    · rw [if_neg hd, if_neg hd, qP_readNumber_12]
      simp only [jP_readNumber_64, w0, w1, w2i, w2r, w3, w4, w5_0, w5_1, w5_2, w5_3, w5_4, w5_5, w5_6, w5_7, w5_8, w6_0, w6_1, w7_0, w7_1, w7_2, w7_3, w7_4, w7_5, w8_0, w8_1, w9_0, w9_1, w9_2, w10_0, w10_1, w10_2, w10_3, w10_4, w10_5, w11, w12_0, w12_1, w12_2, w12_3, w12_4, w12_5, w13_0, w13_1, w13_2, w13_3, w13_4, w13_5, w14, w15i, w15r, w16, w17, w18, w19i, w19z, w19l, w20, w21, w22, w23, w24, w25, w26, w27, w28_1, w28_2, w28_3, w28_4, w28_5, w28_6, w29, w30i, w30z, w31, w32, w33, w34, w35, w36, w37_1, w37_2, w37_3, w37_4, w37_5, w37_6, isO_O, set1_0, set1_1i, set1_1r, set1_1n, set1_1l, set1_s, set2_0, set2_1i, set2_1r, set2_1n, set2_1l, set2_s, ldv_i, ldv_l, ldv_r, ldv_s, ldi_i, ldi_s, fK_0, fK_s, gfc_O, fS_0, fS_s, uH_s, uH_n, uH_u, tl_s, tl_n, b1_0, b1_1, ite_true, ite_false, if_true, if_false, List.length_nil, List.length_cons, Nat.zero_le, Nat.zero_add, Nat.reduceAdd, Nat.reduceLeDiff, Nat.reduceLT, Nat.reduceEqDiff, Nat.reduceMul, Nat.add_left_cancel_iff, not_false_eq_true, i10, Bool.false_eq_true, z01, ne_eq, not_true_eq_false, not_false_eq_true, or_self, true_or, or_true, false_or, or_false, h26, h27, hc, rBc_n (show e < 100 by omega) (show 100 < 2 ^ 31 by decide), hb e (by omega), P_d10n (show tb e ≤ 126 by omega) hd, i44]
theorem M_num_loop {hi fr : Option Value} (hT : Tb tb l) (hb : ∀ k, k < l → tp k = nI (tb k)) : ∀ (d e v : Nat) (h : AH), e + d = l → v ≤ 10000 → h 39 = mO ho pu ye bo (nI l) (nI e) wr be kn pr im → h 45 = aI 100 tp → ∀ z : Int32, Wp none 106 qM_number_38 [some (.ref 39), hi, some (.int z), some (.int (nI v))] [] h Q = Wp none 106 qM_number_113 [some (.ref 39), hi, some (.int z), some (.int (nI (vlM tb d e v)))] [] (uH h 39 (mO ho pu ye bo (nI l) (nI (dgE tb d e)) wr be kn pr im)) Q := by
  have hl := hT.1
  intro d
  induction d with
  | zero =>
    intro e v h he hv h39 h45 z
    have e' : e = l := by omega
    subst e'
    have hc : nI e ≤ nI e := nI_le (Nat.le_refl e) (by omega)
    rw [qM_number_38]
    simp only [jM_number_113, w0, w1, w2i, w2r, w3, w4, w5_0, w5_1, w5_2, w5_3, w5_4, w5_5, w5_6, w5_7, w5_8, w6_0, w6_1, w7_0, w7_1, w7_2, w7_3, w7_4, w7_5, w8_0, w8_1, w9_0, w9_1, w9_2, w10_0, w10_1, w10_2, w10_3, w10_4, w10_5, w11, w12_0, w12_1, w12_2, w12_3, w12_4, w12_5, w13_0, w13_1, w13_2, w13_3, w13_4, w13_5, w14, w15i, w15r, w16, w17, w18, w19i, w19z, w19l, w20, w21, w22, w23, w24, w25, w26, w27, w28_1, w28_2, w28_3, w28_4, w28_5, w28_6, w29, w30i, w30z, w31, w32, w33, w34, w35, w36, w37_1, w37_2, w37_3, w37_4, w37_5, w37_6, isO_O, set1_0, set1_1i, set1_1r, set1_1n, set1_1l, set1_s, set2_0, set2_1i, set2_1r, set2_1n, set2_1l, set2_s, ldv_i, ldv_l, ldv_r, ldv_s, ldi_i, ldi_s, fK_0, fK_s, gfc_O, fS_0, fS_s, uH_s, uH_n, uH_u, tl_s, tl_n, b1_0, b1_1, ite_true, ite_false, if_true, if_false, List.length_nil, List.length_cons, Nat.zero_le, Nat.zero_add, Nat.reduceAdd, Nat.reduceLeDiff, Nat.reduceLT, Nat.reduceEqDiff, Nat.reduceMul, Nat.add_left_cancel_iff, not_false_eq_true, h39, hc]
    show _ = Wp none 106 qM_number_113 [some (.ref 39), hi, some (.int z), some (.int (nI v))] [] (uH h 39 (mO ho pu ye bo (nI e) (nI e) wr be kn pr im)) Q
    rw [uH_id h h39]
  | succ d ih =>
    intro e v h he hv h39 h45 z
    have hc : ¬ nI l ≤ nI e := nI_ge (by omega) (by omega)
    have t := hT.2 e (by omega)
    have i57 := in57 (tb e) (by omega)
    rw [dgE, vlM]
    by_cases hd : 48 ≤ tb e ∧ tb e ≤ 57
    · rw [if_pos hd, if_pos hd]
      have sub : nI (10 * v + tb e) - 48 = nI (10 * v + (tb e - 48)) := by rw [show (48 : Int32) = nI 48 from rfl, pk_sub (by omega)]; congr 1; omega
      have ih := fun v' hv' => ih (e + 1) v' (uH h 39 (mO ho pu ye bo (nI l) (nI (e + 1)) wr be kn pr im)) (by omega) hv' (uH_s _ _ _) (by rw [uH_n _ _ (by decide)]; exact h45) z
      rw [uH_u] at ih
      by_cases h9 : 999 < v
      · have h9' : ¬ nI v ≤ 999 := nI_ge (a := 999) (by omega) (by omega)
        rw [if_pos h9, ← ih v (by omega)]
        conv => lhs; rw [qM_number_38]
        simp only [qM_number_99, jM_number_99, jM_number_38, w0, w1, w2i, w2r, w3, w4, w5_0, w5_1, w5_2, w5_3, w5_4, w5_5, w5_6, w5_7, w5_8, w6_0, w6_1, w7_0, w7_1, w7_2, w7_3, w7_4, w7_5, w8_0, w8_1, w9_0, w9_1, w9_2, w10_0, w10_1, w10_2, w10_3, w10_4, w10_5, w11, w12_0, w12_1, w12_2, w12_3, w12_4, w12_5, w13_0, w13_1, w13_2, w13_3, w13_4, w13_5, w14, w15i, w15r, w16, w17, w18, w19i, w19z, w19l, w20, w21, w22, w23, w24, w25, w26, w27, w28_1, w28_2, w28_3, w28_4, w28_5, w28_6, w29, w30i, w30z, w31, w32, w33, w34, w35, w36, w37_1, w37_2, w37_3, w37_4, w37_5, w37_6, isO_O, set1_0, set1_1i, set1_1r, set1_1n, set1_1l, set1_s, set2_0, set2_1i, set2_1r, set2_1n, set2_1l, set2_s, ldv_i, ldv_l, ldv_r, ldv_s, ldi_i, ldi_s, fK_0, fK_s, gfc_O, fS_0, fS_s, uH_s, uH_n, uH_u, tl_s, tl_n, b1_0, b1_1, ite_true, ite_false, if_true, if_false, List.length_nil, List.length_cons, Nat.zero_le, Nat.zero_add, Nat.reduceAdd, Nat.reduceLeDiff, Nat.reduceLT, Nat.reduceEqDiff, Nat.reduceMul, Nat.add_left_cancel_iff, not_false_eq_true, i10, Bool.false_eq_true, z01, ne_eq, not_true_eq_false, not_false_eq_true, or_self, true_or, or_true, false_or, or_false, h39, h45, hc, rIc_n (show e < 100 by omega) (show 100 < 2 ^ 31 by decide), hb e (by omega), M_in, i57, and_self, hd, h9', pfc_O, nI_1]
      · have h9' : nI v ≤ 999 := nI_le (b := 999) (by omega) (by decide)
        rw [if_neg h9, ← ih (10 * v + (tb e - 48)) (by omega)]
        conv => lhs; rw [qM_number_38]
        simp only [qM_number_82, jM_number_82, qM_number_99, jM_number_99, jM_number_38, w0, w1, w2i, w2r, w3, w4, w5_0, w5_1, w5_2, w5_3, w5_4, w5_5, w5_6, w5_7, w5_8, w6_0, w6_1, w7_0, w7_1, w7_2, w7_3, w7_4, w7_5, w8_0, w8_1, w9_0, w9_1, w9_2, w10_0, w10_1, w10_2, w10_3, w10_4, w10_5, w11, w12_0, w12_1, w12_2, w12_3, w12_4, w12_5, w13_0, w13_1, w13_2, w13_3, w13_4, w13_5, w14, w15i, w15r, w16, w17, w18, w19i, w19z, w19l, w20, w21, w22, w23, w24, w25, w26, w27, w28_1, w28_2, w28_3, w28_4, w28_5, w28_6, w29, w30i, w30z, w31, w32, w33, w34, w35, w36, w37_1, w37_2, w37_3, w37_4, w37_5, w37_6, isO_O, set1_0, set1_1i, set1_1r, set1_1n, set1_1l, set1_s, set2_0, set2_1i, set2_1r, set2_1n, set2_1l, set2_s, ldv_i, ldv_l, ldv_r, ldv_s, ldi_i, ldi_s, fK_0, fK_s, gfc_O, fS_0, fS_s, uH_s, uH_n, uH_u, tl_s, tl_n, b1_0, b1_1, ite_true, ite_false, if_true, if_false, List.length_nil, List.length_cons, Nat.zero_le, Nat.zero_add, Nat.reduceAdd, Nat.reduceLeDiff, Nat.reduceLT, Nat.reduceEqDiff, Nat.reduceMul, Nat.add_left_cancel_iff, not_false_eq_true, i10, Bool.false_eq_true, z01, ne_eq, not_true_eq_false, not_false_eq_true, or_self, true_or, or_true, false_or, or_false, h39, h45, hc, rIc_n (show e < 100 by omega) (show 100 < 2 ^ 31 by decide), hb e (by omega), M_in, i57, and_self, hd, h9', n10, nI_add, sub, pfc_O, nI_1]
    · rw [if_neg hd, if_neg hd, qM_number_38]
      simp only [jM_number_113, w0, w1, w2i, w2r, w3, w4, w5_0, w5_1, w5_2, w5_3, w5_4, w5_5, w5_6, w5_7, w5_8, w6_0, w6_1, w7_0, w7_1, w7_2, w7_3, w7_4, w7_5, w8_0, w8_1, w9_0, w9_1, w9_2, w10_0, w10_1, w10_2, w10_3, w10_4, w10_5, w11, w12_0, w12_1, w12_2, w12_3, w12_4, w12_5, w13_0, w13_1, w13_2, w13_3, w13_4, w13_5, w14, w15i, w15r, w16, w17, w18, w19i, w19z, w19l, w20, w21, w22, w23, w24, w25, w26, w27, w28_1, w28_2, w28_3, w28_4, w28_5, w28_6, w29, w30i, w30z, w31, w32, w33, w34, w35, w36, w37_1, w37_2, w37_3, w37_4, w37_5, w37_6, isO_O, set1_0, set1_1i, set1_1r, set1_1n, set1_1l, set1_s, set2_0, set2_1i, set2_1r, set2_1n, set2_1l, set2_s, ldv_i, ldv_l, ldv_r, ldv_s, ldi_i, ldi_s, fK_0, fK_s, gfc_O, fS_0, fS_s, uH_s, uH_n, uH_u, tl_s, tl_n, b1_0, b1_1, ite_true, ite_false, if_true, if_false, List.length_nil, List.length_cons, Nat.zero_le, Nat.zero_add, Nat.reduceAdd, Nat.reduceLeDiff, Nat.reduceLT, Nat.reduceEqDiff, Nat.reduceMul, Nat.add_left_cancel_iff, not_false_eq_true, i10, Bool.false_eq_true, z01, ne_eq, not_true_eq_false, not_false_eq_true, or_self, true_or, or_true, false_or, or_false, h39, h45, hc, rIc_n (show e < 100 by omega) (show 100 < 2 ^ 31 by decide), hb e (by omega), M_in, i57, and_self, hd]
      rw [uH_id h h39]
end NUMBER
/-- a number that may be stands there -/
def isN (tb : Nat → Nat) (l q : Nat) : Prop := isD tb l 10 q ∧ vlC tb (l - q) q 0 ≤ 99
theorem dgE_s {tb : Nat → Nat} {l q : Nat} (hd : isD tb l 10 q) : q + 1 ≤ dgE tb (l - q) q := by
  obtain ⟨h1, h2, h3⟩ := hd
  have e : l - q = (l - q - 1) + 1 := by omega
  rw [e, dgE, if_pos (by omega)]
  exact (dgE_le tb _ _).1
theorem dgE_n {tb : Nat → Nat} {l q : Nat} (hd : ¬ isD tb l 10 q) : dgE tb (l - q) q = q := by
  by_cases h1 : q < l
  · have e : l - q = (l - q - 1) + 1 := by omega
    rw [e, dgE, if_neg]
    intro z
    exact hd ⟨h1, by omega, by omega⟩
  · rw [show l - q = 0 by omega]; rfl
section NUMBER2
variable {h : AH} {tb : Nat → Nat} {l p : Nat} {bt tp : Nat → Int32} {ho pu ye bo : Int32} {be : Int64} {kn pr im : Int32}
theorem nuE (hT : Tb tb l) (hb : ∀ k, k < l → bt k = nI (tb k)) (hp : p ≤ l) (h26 : h 26 = aO 2 [.ref 27, .int (nI l), .int (nI p)]) (h27 : h 27 = aB 100 bt) (hn : isN tb l (sk tb l p)) : ∃ g : AH, (∀ Q, WpM 24 [.ref 26] h Q = Q (some (.int (nI (vlC tb (l - sk tb l p) (sk tb l p) 0)))) g) ∧ g 26 = aO 2 [.ref 27, .int (nI l), .int (nI (dgE tb (l - sk tb l p) (sk tb l p)))] ∧ NS [26] h g ∧ (Sh h → Sh g) := by
  have hl := hT.1
  have hq := sk_le (tb := tb) hp
  obtain ⟨g, k1, d26, n1, s1⟩ := nsE hT hb hp h26 h27
  generalize sk tb l p = q at *
  have e1 := dgE_s hn.1
  have e2 := (dgE_le tb (l - q) q).2
  have ne : (nI (dgE tb (l - q) q) = nI q) = False := by
    rw [nI_eq (by omega) (by omega)]
    exact eq_false (by omega)
  have le9 : nI (vlC tb (l - q) q 0) ≤ 99 := nI_le (b := 99) hn.2 (by decide)
  refine ⟨uH g 26 (aO 2 [.ref 27, .int (nI l), .int (nI (dgE tb (l - q) q))]), fun Q => ?_, uH_s _ _ _, n1.t (NS.r.u (by decide)), fun hS => sh_26 (s1 hS)⟩
  have lp := P_num_loop (Q := Q) (at' := nI q) hT hb d26 ((n1 27 (by decide)).trans h27) (l - q) q 0 (by omega) (by omega)
  rw [show nI 0 = 0 from rfl] at lp
  rw [eP_readNumber]
  simp only [qP_readNumber_0, w0, w1, w2i, w2r, w3, w4, w5_0, w5_1, w5_2, w5_3, w5_4, w5_5, w5_6, w5_7, w5_8, w6_0, w6_1, w7_0, w7_1, w7_2, w7_3, w7_4, w7_5, w8_0, w8_1, w9_0, w9_1, w9_2, w10_0, w10_1, w10_2, w10_3, w10_4, w10_5, w11, w12_0, w12_1, w12_2, w12_3, w12_4, w12_5, w13_0, w13_1, w13_2, w13_3, w13_4, w13_5, w14, w15i, w15r, w16, w17, w18, w19i, w19z, w19l, w20, w21, w22, w23, w24, w25, w26, w27, w28_1, w28_2, w28_3, w28_4, w28_5, w28_6, w29, w30i, w30z, w31, w32, w33, w34, w35, w36, w37_1, w37_2, w37_3, w37_4, w37_5, w37_6, isO_O, set1_0, set1_1i, set1_1r, set1_1n, set1_1l, set1_s, set2_0, set2_1i, set2_1r, set2_1n, set2_1l, set2_s, ldv_i, ldv_l, ldv_r, ldv_s, ldi_i, ldi_s, fK_0, fK_s, gfc_O, fS_0, fS_s, uH_s, uH_n, uH_u, tl_s, tl_n, b1_0, b1_1, ite_true, ite_false, if_true, if_false, List.length_nil, List.length_cons, Nat.zero_le, Nat.zero_add, Nat.reduceAdd, Nat.reduceLeDiff, Nat.reduceLT, Nat.reduceEqDiff, Nat.reduceMul, Nat.add_left_cancel_iff, not_false_eq_true, h26, k1, d26, lp]
  rw [qP_readNumber_64]
  simp only [qP_readNumber_81, jP_readNumber_81, w0, w1, w2i, w2r, w3, w4, w5_0, w5_1, w5_2, w5_3, w5_4, w5_5, w5_6, w5_7, w5_8, w6_0, w6_1, w7_0, w7_1, w7_2, w7_3, w7_4, w7_5, w8_0, w8_1, w9_0, w9_1, w9_2, w10_0, w10_1, w10_2, w10_3, w10_4, w10_5, w11, w12_0, w12_1, w12_2, w12_3, w12_4, w12_5, w13_0, w13_1, w13_2, w13_3, w13_4, w13_5, w14, w15i, w15r, w16, w17, w18, w19i, w19z, w19l, w20, w21, w22, w23, w24, w25, w26, w27, w28_1, w28_2, w28_3, w28_4, w28_5, w28_6, w29, w30i, w30z, w31, w32, w33, w34, w35, w36, w37_1, w37_2, w37_3, w37_4, w37_5, w37_6, isO_O, set1_0, set1_1i, set1_1r, set1_1n, set1_1l, set1_s, set2_0, set2_1i, set2_1r, set2_1n, set2_1l, set2_s, ldv_i, ldv_l, ldv_r, ldv_s, ldi_i, ldi_s, fK_0, fK_s, gfc_O, fS_0, fS_s, uH_s, uH_n, uH_u, tl_s, tl_n, b1_0, b1_1, ite_true, ite_false, if_true, if_false, List.length_nil, List.length_cons, Nat.zero_le, Nat.zero_add, Nat.reduceAdd, Nat.reduceLeDiff, Nat.reduceLT, Nat.reduceEqDiff, Nat.reduceMul, Nat.add_left_cancel_iff, not_false_eq_true, i10, Bool.false_eq_true, z01, ne_eq, not_true_eq_false, not_false_eq_true, or_self, true_or, or_true, false_or, or_false, d26, ne, le9, pfc_2]
theorem nuE0 (hT : Tb tb l) (hb : ∀ k, k < l → bt k = nI (tb k)) (hp : p ≤ l) (h26 : h 26 = aO 2 [.ref 27, .int (nI l), .int (nI p)]) (h27 : h 27 = aB 100 bt) (hn : ¬ isN tb l (sk tb l p)) : ∃ g : AH, (∀ Q, WpM 24 [.ref 26] h Q = Q (some (.int (-4))) g) ∧ g 26 = aO 2 [.ref 27, .int (nI l), .int (nI (sk tb l p))] ∧ NS [26] h g ∧ (Sh h → Sh g) := by
  have hl := hT.1
  have hq := sk_le (tb := tb) hp
  obtain ⟨g, k1, d26, n1, s1⟩ := nsE hT hb hp h26 h27
  generalize sk tb l p = q at *
  refine ⟨g, fun Q => ?_, d26, n1, s1⟩
  have lp := P_num_loop (Q := Q) (at' := nI q) hT hb d26 ((n1 27 (by decide)).trans h27) (l - q) q 0 (by omega) (by omega)
  rw [show nI 0 = 0 from rfl] at lp
  rw [eP_readNumber]
  simp only [qP_readNumber_0, w0, w1, w2i, w2r, w3, w4, w5_0, w5_1, w5_2, w5_3, w5_4, w5_5, w5_6, w5_7, w5_8, w6_0, w6_1, w7_0, w7_1, w7_2, w7_3, w7_4, w7_5, w8_0, w8_1, w9_0, w9_1, w9_2, w10_0, w10_1, w10_2, w10_3, w10_4, w10_5, w11, w12_0, w12_1, w12_2, w12_3, w12_4, w12_5, w13_0, w13_1, w13_2, w13_3, w13_4, w13_5, w14, w15i, w15r, w16, w17, w18, w19i, w19z, w19l, w20, w21, w22, w23, w24, w25, w26, w27, w28_1, w28_2, w28_3, w28_4, w28_5, w28_6, w29, w30i, w30z, w31, w32, w33, w34, w35, w36, w37_1, w37_2, w37_3, w37_4, w37_5, w37_6, isO_O, set1_0, set1_1i, set1_1r, set1_1n, set1_1l, set1_s, set2_0, set2_1i, set2_1r, set2_1n, set2_1l, set2_s, ldv_i, ldv_l, ldv_r, ldv_s, ldi_i, ldi_s, fK_0, fK_s, gfc_O, fS_0, fS_s, uH_s, uH_n, uH_u, tl_s, tl_n, b1_0, b1_1, ite_true, ite_false, if_true, if_false, List.length_nil, List.length_cons, Nat.zero_le, Nat.zero_add, Nat.reduceAdd, Nat.reduceLeDiff, Nat.reduceLT, Nat.reduceEqDiff, Nat.reduceMul, Nat.add_left_cancel_iff, not_false_eq_true, h26, k1, d26, lp]
  rw [qP_readNumber_64]
  by_cases hd : isD tb l 10 q
  · have e1 := dgE_s hd
    have e2 := (dgE_le tb (l - q) q).2
    have ne : (nI (dgE tb (l - q) q) = nI q) = False := by
      rw [nI_eq (by omega) (by omega)]
      exact eq_false (by omega)
    have v9 : 99 < vlC tb (l - q) q 0 := Nat.lt_of_not_le (fun z => hn ⟨hd, z⟩)
    have v1 := vl_rel tb (l - q) q 0 0 (Or.inl ⟨by omega, rfl⟩)
    have le9 : ¬ nI (vlC tb (l - q) q 0) ≤ 99 := nI_ge (a := 99) v9 (by unfold vRel at v1; omega)
    simp only [qP_readNumber_78, jP_readNumber_78, w0, w1, w2i, w2r, w3, w4, w5_0, w5_1, w5_2, w5_3, w5_4, w5_5, w5_6, w5_7, w5_8, w6_0, w6_1, w7_0, w7_1, w7_2, w7_3, w7_4, w7_5, w8_0, w8_1, w9_0, w9_1, w9_2, w10_0, w10_1, w10_2, w10_3, w10_4, w10_5, w11, w12_0, w12_1, w12_2, w12_3, w12_4, w12_5, w13_0, w13_1, w13_2, w13_3, w13_4, w13_5, w14, w15i, w15r, w16, w17, w18, w19i, w19z, w19l, w20, w21, w22, w23, w24, w25, w26, w27, w28_1, w28_2, w28_3, w28_4, w28_5, w28_6, w29, w30i, w30z, w31, w32, w33, w34, w35, w36, w37_1, w37_2, w37_3, w37_4, w37_5, w37_6, isO_O, set1_0, set1_1i, set1_1r, set1_1n, set1_1l, set1_s, set2_0, set2_1i, set2_1r, set2_1n, set2_1l, set2_s, ldv_i, ldv_l, ldv_r, ldv_s, ldi_i, ldi_s, fK_0, fK_s, gfc_O, fS_0, fS_s, uH_s, uH_n, uH_u, tl_s, tl_n, b1_0, b1_1, ite_true, ite_false, if_true, if_false, List.length_nil, List.length_cons, Nat.zero_le, Nat.zero_add, Nat.reduceAdd, Nat.reduceLeDiff, Nat.reduceLT, Nat.reduceEqDiff, Nat.reduceMul, Nat.add_left_cancel_iff, not_false_eq_true, i10, Bool.false_eq_true, z01, ne_eq, not_true_eq_false, not_false_eq_true, or_self, true_or, or_true, false_or, or_false, d26, ne, le9]
  · rw [dgE_n hd]
    simp only [qP_readNumber_78, jP_readNumber_78, w0, w1, w2i, w2r, w3, w4, w5_0, w5_1, w5_2, w5_3, w5_4, w5_5, w5_6, w5_7, w5_8, w6_0, w6_1, w7_0, w7_1, w7_2, w7_3, w7_4, w7_5, w8_0, w8_1, w9_0, w9_1, w9_2, w10_0, w10_1, w10_2, w10_3, w10_4, w10_5, w11, w12_0, w12_1, w12_2, w12_3, w12_4, w12_5, w13_0, w13_1, w13_2, w13_3, w13_4, w13_5, w14, w15i, w15r, w16, w17, w18, w19i, w19z, w19l, w20, w21, w22, w23, w24, w25, w26, w27, w28_1, w28_2, w28_3, w28_4, w28_5, w28_6, w29, w30i, w30z, w31, w32, w33, w34, w35, w36, w37_1, w37_2, w37_3, w37_4, w37_5, w37_6, isO_O, set1_0, set1_1i, set1_1r, set1_1n, set1_1l, set1_s, set2_0, set2_1i, set2_1r, set2_1n, set2_1l, set2_s, ldv_i, ldv_l, ldv_r, ldv_s, ldi_i, ldi_s, fK_0, fK_s, gfc_O, fS_0, fS_s, uH_s, uH_n, uH_u, tl_s, tl_n, b1_0, b1_1, ite_true, ite_false, if_true, if_false, List.length_nil, List.length_cons, Nat.zero_le, Nat.zero_add, Nat.reduceAdd, Nat.reduceLeDiff, Nat.reduceLT, Nat.reduceEqDiff, Nat.reduceMul, Nat.add_left_cancel_iff, not_false_eq_true, i10, Bool.false_eq_true, z01, ne_eq, not_true_eq_false, not_false_eq_true, or_self, true_or, or_true, false_or, or_false, d26]
theorem numE (hT : Tb tb l) (hb : ∀ k, k < l → tp k = nI (tb k)) (hp : p ≤ l) (h39 : h 39 = mO ho pu ye bo (nI l) (nI p) 0 be kn pr im) (h45 : h 45 = aI 100 tp) (hn : isN tb l (sk tb l p)) : ∃ g : AH, (∀ Q, WpM 106 [.ref 39, .int 99] h Q = Q (some (.int (nI (vlC tb (l - sk tb l p) (sk tb l p) 0)))) g) ∧ g 39 = mO ho pu ye bo (nI l) (nI (dgE tb (l - sk tb l p) (sk tb l p))) 0 be kn pr im ∧ NS [39] h g ∧ (Sh h → Sh g) := by
  have hl := hT.1
  have hq := sk_le (tb := tb) hp
  obtain ⟨g, k1, d39, n1, s1⟩ := heE hT hb hp h39 h45
  generalize sk tb l p = q at *
  have v1 := vl_rel tb (l - q) q 0 0 (Or.inl ⟨by omega, rfl⟩)
  have ev : vlM tb (l - q) q 0 = vlC tb (l - q) q 0 := by
    have := hn.2
    unfold vRel at v1
    omega
  have v9 := hn.2
  have le9 : nI (vlC tb (l - q) q 0) ≤ 99 := nI_le (b := 99) v9 (by decide)
  have sg : sgM tb l q = nI (tb q) := if_pos hn.1.1
  have t := hT.2 q hn.1.1
  have i57 := in57 (tb q) (by omega)
  have hd : 48 ≤ tb q ∧ tb q ≤ 57 := ⟨hn.1.2.1, by have := hn.1.2.2; omega⟩
  refine ⟨uH g 39 (mO ho pu ye bo (nI l) (nI (dgE tb (l - q) q)) 0 be kn pr im), fun Q => ?_, uH_s _ _ _, n1.t (NS.r.u (by decide)), fun hS => sh_39 (s1 hS)⟩
  have lp := M_num_loop (Q := Q) (hi := some (.int 99)) (fr := none) hT hb (l - q) q 0 g (by omega) (by omega) d39 ((n1 45 (by decide)).trans h45) (nI q)
  rw [show nI 0 = 0 from rfl, ev] at lp
  rw [eM_number]
  simp only [qM_number_0, jM_number_0, qM_number_31, jM_number_31, w0, w1, w2i, w2r, w3, w4, w5_0, w5_1, w5_2, w5_3, w5_4, w5_5, w5_6, w5_7, w5_8, w6_0, w6_1, w7_0, w7_1, w7_2, w7_3, w7_4, w7_5, w8_0, w8_1, w9_0, w9_1, w9_2, w10_0, w10_1, w10_2, w10_3, w10_4, w10_5, w11, w12_0, w12_1, w12_2, w12_3, w12_4, w12_5, w13_0, w13_1, w13_2, w13_3, w13_4, w13_5, w14, w15i, w15r, w16, w17, w18, w19i, w19z, w19l, w20, w21, w22, w23, w24, w25, w26, w27, w28_1, w28_2, w28_3, w28_4, w28_5, w28_6, w29, w30i, w30z, w31, w32, w33, w34, w35, w36, w37_1, w37_2, w37_3, w37_4, w37_5, w37_6, isO_O, set1_0, set1_1i, set1_1r, set1_1n, set1_1l, set1_s, set2_0, set2_1i, set2_1r, set2_1n, set2_1l, set2_s, ldv_i, ldv_l, ldv_r, ldv_s, ldi_i, ldi_s, fK_0, fK_s, gfc_O, fS_0, fS_s, uH_s, uH_n, uH_u, tl_s, tl_n, b1_0, b1_1, ite_true, ite_false, if_true, if_false, List.length_nil, List.length_cons, Nat.zero_le, Nat.zero_add, Nat.reduceAdd, Nat.reduceLeDiff, Nat.reduceLT, Nat.reduceEqDiff, Nat.reduceMul, Nat.add_left_cancel_iff, not_false_eq_true, i10, Bool.false_eq_true, z01, ne_eq, not_true_eq_false, not_false_eq_true, or_self, true_or, or_true, false_or, or_false, h39, k1, sg, M_in, i57, and_self, hd, d39, lp]
  rw [qM_number_113]
  simp only [qM_number_123, jM_number_123, qM_number_124, jM_number_124, qM_number_139, jM_number_139, qM_number_143, jM_number_143, w0, w1, w2i, w2r, w3, w4, w5_0, w5_1, w5_2, w5_3, w5_4, w5_5, w5_6, w5_7, w5_8, w6_0, w6_1, w7_0, w7_1, w7_2, w7_3, w7_4, w7_5, w8_0, w8_1, w9_0, w9_1, w9_2, w10_0, w10_1, w10_2, w10_3, w10_4, w10_5, w11, w12_0, w12_1, w12_2, w12_3, w12_4, w12_5, w13_0, w13_1, w13_2, w13_3, w13_4, w13_5, w14, w15i, w15r, w16, w17, w18, w19i, w19z, w19l, w20, w21, w22, w23, w24, w25, w26, w27, w28_1, w28_2, w28_3, w28_4, w28_5, w28_6, w29, w30i, w30z, w31, w32, w33, w34, w35, w36, w37_1, w37_2, w37_3, w37_4, w37_5, w37_6, isO_O, set1_0, set1_1i, set1_1r, set1_1n, set1_1l, set1_s, set2_0, set2_1i, set2_1r, set2_1n, set2_1l, set2_s, ldv_i, ldv_l, ldv_r, ldv_s, ldi_i, ldi_s, fK_0, fK_s, gfc_O, fS_0, fS_s, uH_s, uH_n, uH_u, tl_s, tl_n, b1_0, b1_1, ite_true, ite_false, if_true, if_false, List.length_nil, List.length_cons, Nat.zero_le, Nat.zero_add, Nat.reduceAdd, Nat.reduceLeDiff, Nat.reduceLT, Nat.reduceEqDiff, Nat.reduceMul, Nat.add_left_cancel_iff, not_false_eq_true, i10, Bool.false_eq_true, z01, ne_eq, not_true_eq_false, not_false_eq_true, or_self, true_or, or_true, false_or, or_false, d39, le9, pfc_O]
theorem numE0 (hT : Tb tb l) (hb : ∀ k, k < l → tp k = nI (tb k)) (hp : p ≤ l) (h39 : h 39 = mO ho pu ye bo (nI l) (nI p) 0 be kn pr im) (h45 : h 45 = aI 100 tp) (hn : ¬ isN tb l (sk tb l p)) : ∃ (g : AH) (z : Int32), (∀ Q, WpM 106 [.ref 39, .int 99] h Q = Q (some (.int z)) g) ∧ g 39 = mO ho pu ye bo (nI l) (nI (sk tb l p)) 1 be kn pr im ∧ NS [39] h g ∧ (Sh h → Sh g) := by
  have hl := hT.1
  have hq := sk_le (tb := tb) hp
  obtain ⟨g, k1, d39, n1, s1⟩ := heE hT hb hp h39 h45
  generalize sk tb l p = q at *
  by_cases hd : isD tb l 10 q
  · have v1 := vl_rel tb (l - q) q 0 0 (Or.inl ⟨by omega, rfl⟩)
    have v9 : 99 < vlM tb (l - q) q 0 := by
      have : ¬ vlC tb (l - q) q 0 ≤ 99 := fun z => hn ⟨hd, z⟩
      unfold vRel at v1
      omega
    have le9 : ¬ nI (vlM tb (l - q) q 0) ≤ 99 := nI_ge (a := 99) v9 (by unfold vRel at v1; omega)
    have sg : sgM tb l q = nI (tb q) := if_pos hd.1
    have t := hT.2 q hd.1
    have i57 := in57 (tb q) (by omega)
    have hd' : 48 ≤ tb q ∧ tb q ≤ 57 := ⟨hd.2.1, by have := hd.2.2; omega⟩
    refine ⟨uH g 39 (mO ho pu ye bo (nI l) (nI q) 1 be kn pr im), nI (vlM tb (l - q) q 0), fun Q => ?_, uH_s _ _ _, n1.t (NS.r.u (by decide)), fun hS => sh_39 (s1 hS)⟩
    have lp := M_num_loop (Q := Q) (hi := some (.int 99)) (fr := none) hT hb (l - q) q 0 g (by omega) (by omega) d39 ((n1 45 (by decide)).trans h45) (nI q)
    rw [show nI 0 = 0 from rfl] at lp
    rw [eM_number]
    simp only [qM_number_0, jM_number_0, qM_number_31, jM_number_31, w0, w1, w2i, w2r, w3, w4, w5_0, w5_1, w5_2, w5_3, w5_4, w5_5, w5_6, w5_7, w5_8, w6_0, w6_1, w7_0, w7_1, w7_2, w7_3, w7_4, w7_5, w8_0, w8_1, w9_0, w9_1, w9_2, w10_0, w10_1, w10_2, w10_3, w10_4, w10_5, w11, w12_0, w12_1, w12_2, w12_3, w12_4, w12_5, w13_0, w13_1, w13_2, w13_3, w13_4, w13_5, w14, w15i, w15r, w16, w17, w18, w19i, w19z, w19l, w20, w21, w22, w23, w24, w25, w26, w27, w28_1, w28_2, w28_3, w28_4, w28_5, w28_6, w29, w30i, w30z, w31, w32, w33, w34, w35, w36, w37_1, w37_2, w37_3, w37_4, w37_5, w37_6, isO_O, set1_0, set1_1i, set1_1r, set1_1n, set1_1l, set1_s, set2_0, set2_1i, set2_1r, set2_1n, set2_1l, set2_s, ldv_i, ldv_l, ldv_r, ldv_s, ldi_i, ldi_s, fK_0, fK_s, gfc_O, fS_0, fS_s, uH_s, uH_n, uH_u, tl_s, tl_n, b1_0, b1_1, ite_true, ite_false, if_true, if_false, List.length_nil, List.length_cons, Nat.zero_le, Nat.zero_add, Nat.reduceAdd, Nat.reduceLeDiff, Nat.reduceLT, Nat.reduceEqDiff, Nat.reduceMul, Nat.add_left_cancel_iff, not_false_eq_true, i10, Bool.false_eq_true, z01, ne_eq, not_true_eq_false, not_false_eq_true, or_self, true_or, or_true, false_or, or_false, h39, k1, sg, M_in, i57, and_self, hd', d39, lp]
    rw [qM_number_113]
    simp only [qM_number_123, jM_number_123, qM_number_124, jM_number_124, qM_number_139, jM_number_139, qM_number_143, jM_number_143, w0, w1, w2i, w2r, w3, w4, w5_0, w5_1, w5_2, w5_3, w5_4, w5_5, w5_6, w5_7, w5_8, w6_0, w6_1, w7_0, w7_1, w7_2, w7_3, w7_4, w7_5, w8_0, w8_1, w9_0, w9_1, w9_2, w10_0, w10_1, w10_2, w10_3, w10_4, w10_5, w11, w12_0, w12_1, w12_2, w12_3, w12_4, w12_5, w13_0, w13_1, w13_2, w13_3, w13_4, w13_5, w14, w15i, w15r, w16, w17, w18, w19i, w19z, w19l, w20, w21, w22, w23, w24, w25, w26, w27, w28_1, w28_2, w28_3, w28_4, w28_5, w28_6, w29, w30i, w30z, w31, w32, w33, w34, w35, w36, w37_1, w37_2, w37_3, w37_4, w37_5, w37_6, isO_O, set1_0, set1_1i, set1_1r, set1_1n, set1_1l, set1_s, set2_0, set2_1i, set2_1r, set2_1n, set2_1l, set2_s, ldv_i, ldv_l, ldv_r, ldv_s, ldi_i, ldi_s, fK_0, fK_s, gfc_O, fS_0, fS_s, uH_s, uH_n, uH_u, tl_s, tl_n, b1_0, b1_1, ite_true, ite_false, if_true, if_false, List.length_nil, List.length_cons, Nat.zero_le, Nat.zero_add, Nat.reduceAdd, Nat.reduceLeDiff, Nat.reduceLT, Nat.reduceEqDiff, Nat.reduceMul, Nat.add_left_cancel_iff, not_false_eq_true, i10, Bool.false_eq_true, z01, ne_eq, not_true_eq_false, not_false_eq_true, or_self, true_or, or_true, false_or, or_false, d39, le9, pfc_O]
  · refine ⟨uH g 39 (mO ho pu ye bo (nI l) (nI q) 1 be kn pr im), 0, fun Q => ?_, uH_s _ _ _, n1.t (NS.r.u (by decide)), fun hS => sh_39 (s1 hS)⟩
    have nin : (sgM tb l q).toInt64 < 48 ∨ (57 : Int64) < (sgM tb l q).toInt64 := by
      unfold sgM
      by_cases c : q < l
      · have t := hT.2 q c
        rw [if_pos c, in57 (tb q) (by omega)]
        exact fun z => hd ⟨c, by omega, by omega⟩
      · rw [if_neg c]; exact Or.inl (by decide)
    rw [eM_number]
    simp only [qM_number_0, jM_number_0, qM_number_24, jM_number_24, qM_number_31, jM_number_31, w0, w1, w2i, w2r, w3, w4, w5_0, w5_1, w5_2, w5_3, w5_4, w5_5, w5_6, w5_7, w5_8, w6_0, w6_1, w7_0, w7_1, w7_2, w7_3, w7_4, w7_5, w8_0, w8_1, w9_0, w9_1, w9_2, w10_0, w10_1, w10_2, w10_3, w10_4, w10_5, w11, w12_0, w12_1, w12_2, w12_3, w12_4, w12_5, w13_0, w13_1, w13_2, w13_3, w13_4, w13_5, w14, w15i, w15r, w16, w17, w18, w19i, w19z, w19l, w20, w21, w22, w23, w24, w25, w26, w27, w28_1, w28_2, w28_3, w28_4, w28_5, w28_6, w29, w30i, w30z, w31, w32, w33, w34, w35, w36, w37_1, w37_2, w37_3, w37_4, w37_5, w37_6, isO_O, set1_0, set1_1i, set1_1r, set1_1n, set1_1l, set1_s, set2_0, set2_1i, set2_1r, set2_1n, set2_1l, set2_s, ldv_i, ldv_l, ldv_r, ldv_s, ldi_i, ldi_s, fK_0, fK_s, gfc_O, fS_0, fS_s, uH_s, uH_n, uH_u, tl_s, tl_n, b1_0, b1_1, ite_true, ite_false, if_true, if_false, List.length_nil, List.length_cons, Nat.zero_le, Nat.zero_add, Nat.reduceAdd, Nat.reduceLeDiff, Nat.reduceLT, Nat.reduceEqDiff, Nat.reduceMul, Nat.add_left_cancel_iff, not_false_eq_true, i10, Bool.false_eq_true, z01, ne_eq, not_true_eq_false, not_false_eq_true, or_self, true_or, or_true, false_or, or_false, h39, k1, M_in, nin, d39, pfc_O]
theorem numW {at' : Int32} (h39 : h 39 = mO ho pu ye bo (nI l) at' 1 be kn pr im) : ∃ g : AH, (∀ Q, WpM 106 [.ref 39, .int 99] h Q = Q (some (.int 0)) g) ∧ g 39 = mO ho pu ye bo (nI l) at' 1 be kn pr im ∧ NS [39] h g ∧ (Sh h → Sh g) := by
  refine ⟨uH h 39 (mO ho pu ye bo (nI l) at' 1 be kn pr im), fun Q => ?_, uH_s _ _ _, NS.r.u (by decide), fun hS => sh_39 hS⟩
  rw [eM_number]
  simp only [qM_number_0, jM_number_0, qM_number_24, jM_number_24, qM_number_31, jM_number_31, w0, w1, w2i, w2r, w3, w4, w5_0, w5_1, w5_2, w5_3, w5_4, w5_5, w5_6, w5_7, w5_8, w6_0, w6_1, w7_0, w7_1, w7_2, w7_3, w7_4, w7_5, w8_0, w8_1, w9_0, w9_1, w9_2, w10_0, w10_1, w10_2, w10_3, w10_4, w10_5, w11, w12_0, w12_1, w12_2, w12_3, w12_4, w12_5, w13_0, w13_1, w13_2, w13_3, w13_4, w13_5, w14, w15i, w15r, w16, w17, w18, w19i, w19z, w19l, w20, w21, w22, w23, w24, w25, w26, w27, w28_1, w28_2, w28_3, w28_4, w28_5, w28_6, w29, w30i, w30z, w31, w32, w33, w34, w35, w36, w37_1, w37_2, w37_3, w37_4, w37_5, w37_6, isO_O, set1_0, set1_1i, set1_1r, set1_1n, set1_1l, set1_s, set2_0, set2_1i, set2_1r, set2_1n, set2_1l, set2_s, ldv_i, ldv_l, ldv_r, ldv_s, ldi_i, ldi_s, fK_0, fK_s, gfc_O, fS_0, fS_s, uH_s, uH_n, uH_u, tl_s, tl_n, b1_0, b1_1, ite_true, ite_false, if_true, if_false, List.length_nil, List.length_cons, Nat.zero_le, Nat.zero_add, Nat.reduceAdd, Nat.reduceLeDiff, Nat.reduceLT, Nat.reduceEqDiff, Nat.reduceMul, Nat.add_left_cancel_iff, not_false_eq_true, i10, Bool.false_eq_true, z01, ne_eq, not_true_eq_false, not_false_eq_true, or_self, true_or, or_true, false_or, or_false, h39, pfc_O]
end NUMBER2
